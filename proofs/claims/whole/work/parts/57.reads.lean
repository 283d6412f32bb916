/-! SnapStacksModel: reads -/
def rdG (f : Nat → Int32) (n : Nat) : Nat → Nat → Nat → Int32 × Nat × Int32
  | 0, p, _ => (0, p, 0)
  | k + 1, p, c => if c = 8 ∧ p < n then (-1, p, 2) else if prtN f n p = 3 then (if takB f n (p + 3) 44 44 = true then rdG f n k (p + 4) (c + 1) else (if p + 3 < n then -1 else nI (c + 1), p + 3, 1)) else (-1, p + prtN f n p, 1)
def rdF (f : Nat → Int32) (n : Nat) (re : Int32) : Int32 × Nat × Int32 := if n = 0 then (0, 0, re) else rdG f n 9 0 0
theorem prtN_3 {f : Nat → Int32} {n p : Nat} (h : prtN f n p = 3) : p + 3 ≤ n := by
  unfold prtN at h
  split at h
  · split at h
    · split at h
      · rename_i q; exact takB_lt q
      · cases h
    · cases h
  · cases h
theorem prtN_le (f : Nat → Int32) (n p : Nat) : prtN f n p ≤ 3 := by
  unfold prtN
  split
  · split
    · split <;> decide
    · decide
  · decide
def sp_X8_reads (ca : Nat → ClassId) : SPEC := fun av h post => ∃ m a st n fm p re f, av = [.ref m] ∧ h m = some (eMod a st (nI n) fm p re) ∧ h (a 3) = some (.inl (ca 0, 60, .inl f)) ∧ ¬ a 3 = m ∧ n ≤ 60 ∧ post (some (.int (rdF f n re).1)) (va_up h m (some (eMod a st (nI n) fm (nI (rdF f n re).2.1) (rdF f n re).2.2)))
def k_X8_reads (ca : Nat → ClassId) : Nat → IT := fun pc => lk pc [(0, i_aload 0 1),
  (1, i_push (.int 0) 2),
  (2, i_puti 8 13 5),
  (5, i_push (.int 0) 6),
  (6, i_istore 1 7),
  (7, i_aload 0 8),
  (8, i_getf 8 5 11),
  (11, i_if (fun x => x ≤ 0) 18 14),
  (14, i_push (.int 1) 15),
  (15, i_goto 19),
  (18, i_push (.int 0) 19),
  (19, i_istore 2 20),
  (20, i_iload 2 21),
  (21, i_if (fun x => x = 0) 82 24),
  (24, i_aload 0 25),
  (25, i_iload 1 26),
  (26, i_push (.int 8) 28),
  (28, i_icmp (fun x y => ¬ x = y) 46 31),
  (31, i_aload 0 32),
  (32, i_getf 8 13 35),
  (35, i_aload 0 36),
  (36, i_getf 8 5 39),
  (39, i_icmp (fun x y => y ≤ x) 46 42),
  (42, i_push (.int 2) 43),
  (43, i_goto 47),
  (46, i_push (.int 1) 47),
  (47, i_puti 8 14 50),
  (50, i_aload 0 51),
  (51, i_getf 8 14 54),
  (54, i_push (.int 2) 55),
  (55, i_icmp (fun x y => x = y) 65 58),
  (58, i_aload 0 59),
  (59, i_callV 8 0 0 0 0 0 (sp_X8_isPart ca) 62),
  (62, i_if (fun x => ¬ x = 0) 67 65),
  (65, i_push (.int (-1)) 66),
  (66, i_ret),
  (67, i_iinc 1 1 70),
  (70, i_aload 0 71),
  (71, i_push (.int 44) 73),
  (73, i_push (.int 44) 75),
  (75, i_callV 8 2 0 0 0 0 (sp_X8_takes ca) 78),
  (78, i_istore 2 79),
  (79, i_goto 20),
  (82, i_aload 0 83),
  (83, i_getf 8 13 86),
  (86, i_aload 0 87),
  (87, i_getf 8 5 90),
  (90, i_icmp (fun x y => y ≤ x) 97 93),
  (93, i_push (.int (-1)) 94),
  (94, i_goto 98),
  (97, i_iload 1 98),
  (98, i_ret)]
set_option maxRecDepth 20000 in
theorem t_X8_reads : Tb k_X8_reads yX8_reads cX8_reads 3 (some .int) 3 0 0 := by
  intro l D ca A p e s m args below meth c post X
  unfold k_X8_reads
  refine snd_cons (snd_aload_n X dX8_reads_0 rfl) ?_
  refine snd_cons (snd_iconst X dX8_reads_1 (by decide)) ?_
  refine snd_cons (snd_puti X Fk8 13 (by decide) rfl rfl w_660 dX8_reads_2) ?_
  refine snd_cons (snd_iconst X dX8_reads_5 (by decide)) ?_
  refine snd_cons (snd_istore_n X dX8_reads_6 rfl (by decide)) ?_
  refine snd_cons (snd_aload_n X dX8_reads_7 rfl) ?_
  refine snd_cons (snd_getf X Fk8 5 (by decide) w_652 dX8_reads_8) ?_
  refine snd_cons (snd_if_le X dX8_reads_11 (by decide)) ?_
  refine snd_cons (snd_iconst X dX8_reads_14 (by decide)) ?_
  refine snd_cons (snd_goto X dX8_reads_15 (by decide)) ?_
  refine snd_cons (snd_iconst X dX8_reads_18 (by decide)) ?_
  refine snd_cons (snd_istore_n X dX8_reads_19 rfl (by decide)) ?_
  refine snd_cons (snd_iload_n X dX8_reads_20 rfl) ?_
  refine snd_cons (snd_if_eq X dX8_reads_21 (by decide)) ?_
  refine snd_cons (snd_aload_n X dX8_reads_24 rfl) ?_
  refine snd_cons (snd_iload_n X dX8_reads_25 rfl) ?_
  refine snd_cons (snd_bipush X dX8_reads_26 (by decide)) ?_
  refine snd_cons (snd_icmp_ne X dX8_reads_28 (by decide)) ?_
  refine snd_cons (snd_aload_n X dX8_reads_31 rfl) ?_
  refine snd_cons (snd_getf X Fk8 13 (by decide) w_660 dX8_reads_32) ?_
  refine snd_cons (snd_aload_n X dX8_reads_35 rfl) ?_
  refine snd_cons (snd_getf X Fk8 5 (by decide) w_652 dX8_reads_36) ?_
  refine snd_cons (snd_icmp_ge X dX8_reads_39 (by decide)) ?_
  refine snd_cons (snd_iconst X dX8_reads_42 (by decide)) ?_
  refine snd_cons (snd_goto X dX8_reads_43 (by decide)) ?_
  refine snd_cons (snd_iconst X dX8_reads_46 (by decide)) ?_
  refine snd_cons (snd_puti X Fk8 14 (by decide) rfl rfl w_661 dX8_reads_47) ?_
  refine snd_cons (snd_aload_n X dX8_reads_50 rfl) ?_
  refine snd_cons (snd_getf X Fk8 14 (by decide) w_661 dX8_reads_51) ?_
  refine snd_cons (snd_iconst X dX8_reads_54 (by decide)) ?_
  refine snd_cons (snd_icmp_eq X dX8_reads_55 (by decide)) ?_
  refine snd_cons (snd_aload_n X dX8_reads_58 rfl) ?_
  refine snd_cons (snd_callV X Fk8 (ok_X8_isPart l D ca) rfl rfl w_953 w_955 wp_51 w_9 w_956 (by decide) (by decide) dX8_reads_59) ?_
  refine snd_cons (snd_if_ne X dX8_reads_62 (by decide)) ?_
  refine snd_cons (snd_iconst X dX8_reads_65 (by decide)) ?_
  refine snd_cons (snd_ret X dX8_reads_66) ?_
  refine snd_cons (snd_iinc X dX8_reads_67 (by decide) (by decide)) ?_
  refine snd_cons (snd_aload_n X dX8_reads_70 rfl) ?_
  refine snd_cons (snd_bipush X dX8_reads_71 (by decide)) ?_
  refine snd_cons (snd_bipush X dX8_reads_73 (by decide)) ?_
  refine snd_cons (snd_callV X Fk8 (ok_X8_takes l D ca) rfl rfl w_957 w_959 wp_52 w_9 w_960 (by decide) (by decide) dX8_reads_75) ?_
  refine snd_cons (snd_istore_n X dX8_reads_78 rfl (by decide)) ?_
  refine snd_cons (snd_goto X dX8_reads_79 (by decide)) ?_
  refine snd_cons (snd_aload_n X dX8_reads_82 rfl) ?_
  refine snd_cons (snd_getf X Fk8 13 (by decide) w_660 dX8_reads_83) ?_
  refine snd_cons (snd_aload_n X dX8_reads_86 rfl) ?_
  refine snd_cons (snd_getf X Fk8 5 (by decide) w_652 dX8_reads_87) ?_
  refine snd_cons (snd_icmp_ge X dX8_reads_90 (by decide)) ?_
  refine snd_cons (snd_iconst X dX8_reads_93 (by decide)) ?_
  refine snd_cons (snd_goto X dX8_reads_94 (by decide)) ?_
  refine snd_cons (snd_iload_n X dX8_reads_97 rfl) ?_
  refine snd_cons (snd_ret X dX8_reads_98) ?_
  exact snd_nil
theorem k_X8_reads_0 (ca : Nat → ClassId) : k_X8_reads ca 0 = i_aload 0 1 := rfl
theorem k_X8_reads_1 (ca : Nat → ClassId) : k_X8_reads ca 1 = i_push (.int 0) 2 := rfl
theorem k_X8_reads_2 (ca : Nat → ClassId) : k_X8_reads ca 2 = i_puti 8 13 5 := rfl
theorem k_X8_reads_5 (ca : Nat → ClassId) : k_X8_reads ca 5 = i_push (.int 0) 6 := rfl
theorem k_X8_reads_6 (ca : Nat → ClassId) : k_X8_reads ca 6 = i_istore 1 7 := rfl
theorem k_X8_reads_7 (ca : Nat → ClassId) : k_X8_reads ca 7 = i_aload 0 8 := rfl
theorem k_X8_reads_8 (ca : Nat → ClassId) : k_X8_reads ca 8 = i_getf 8 5 11 := rfl
theorem k_X8_reads_11 (ca : Nat → ClassId) : k_X8_reads ca 11 = i_if (fun x => x ≤ 0) 18 14 := rfl
theorem k_X8_reads_14 (ca : Nat → ClassId) : k_X8_reads ca 14 = i_push (.int 1) 15 := rfl
theorem k_X8_reads_15 (ca : Nat → ClassId) : k_X8_reads ca 15 = i_goto 19 := rfl
theorem k_X8_reads_18 (ca : Nat → ClassId) : k_X8_reads ca 18 = i_push (.int 0) 19 := rfl
theorem k_X8_reads_19 (ca : Nat → ClassId) : k_X8_reads ca 19 = i_istore 2 20 := rfl
theorem k_X8_reads_20 (ca : Nat → ClassId) : k_X8_reads ca 20 = i_iload 2 21 := rfl
theorem k_X8_reads_21 (ca : Nat → ClassId) : k_X8_reads ca 21 = i_if (fun x => x = 0) 82 24 := rfl
theorem k_X8_reads_24 (ca : Nat → ClassId) : k_X8_reads ca 24 = i_aload 0 25 := rfl
theorem k_X8_reads_25 (ca : Nat → ClassId) : k_X8_reads ca 25 = i_iload 1 26 := rfl
theorem k_X8_reads_26 (ca : Nat → ClassId) : k_X8_reads ca 26 = i_push (.int 8) 28 := rfl
theorem k_X8_reads_28 (ca : Nat → ClassId) : k_X8_reads ca 28 = i_icmp (fun x y => ¬ x = y) 46 31 := rfl
theorem k_X8_reads_31 (ca : Nat → ClassId) : k_X8_reads ca 31 = i_aload 0 32 := rfl
theorem k_X8_reads_32 (ca : Nat → ClassId) : k_X8_reads ca 32 = i_getf 8 13 35 := rfl
theorem k_X8_reads_35 (ca : Nat → ClassId) : k_X8_reads ca 35 = i_aload 0 36 := rfl
theorem k_X8_reads_36 (ca : Nat → ClassId) : k_X8_reads ca 36 = i_getf 8 5 39 := rfl
theorem k_X8_reads_39 (ca : Nat → ClassId) : k_X8_reads ca 39 = i_icmp (fun x y => y ≤ x) 46 42 := rfl
theorem k_X8_reads_42 (ca : Nat → ClassId) : k_X8_reads ca 42 = i_push (.int 2) 43 := rfl
theorem k_X8_reads_43 (ca : Nat → ClassId) : k_X8_reads ca 43 = i_goto 47 := rfl
theorem k_X8_reads_46 (ca : Nat → ClassId) : k_X8_reads ca 46 = i_push (.int 1) 47 := rfl
theorem k_X8_reads_47 (ca : Nat → ClassId) : k_X8_reads ca 47 = i_puti 8 14 50 := rfl
theorem k_X8_reads_50 (ca : Nat → ClassId) : k_X8_reads ca 50 = i_aload 0 51 := rfl
theorem k_X8_reads_51 (ca : Nat → ClassId) : k_X8_reads ca 51 = i_getf 8 14 54 := rfl
theorem k_X8_reads_54 (ca : Nat → ClassId) : k_X8_reads ca 54 = i_push (.int 2) 55 := rfl
theorem k_X8_reads_55 (ca : Nat → ClassId) : k_X8_reads ca 55 = i_icmp (fun x y => x = y) 65 58 := rfl
theorem k_X8_reads_58 (ca : Nat → ClassId) : k_X8_reads ca 58 = i_aload 0 59 := rfl
theorem k_X8_reads_59 (ca : Nat → ClassId) : k_X8_reads ca 59 = i_callV 8 0 0 0 0 0 (sp_X8_isPart ca) 62 := rfl
theorem k_X8_reads_62 (ca : Nat → ClassId) : k_X8_reads ca 62 = i_if (fun x => ¬ x = 0) 67 65 := rfl
theorem k_X8_reads_65 (ca : Nat → ClassId) : k_X8_reads ca 65 = i_push (.int (-1)) 66 := rfl
theorem k_X8_reads_66 (ca : Nat → ClassId) : k_X8_reads ca 66 = i_ret := rfl
theorem k_X8_reads_67 (ca : Nat → ClassId) : k_X8_reads ca 67 = i_iinc 1 1 70 := rfl
theorem k_X8_reads_70 (ca : Nat → ClassId) : k_X8_reads ca 70 = i_aload 0 71 := rfl
theorem k_X8_reads_71 (ca : Nat → ClassId) : k_X8_reads ca 71 = i_push (.int 44) 73 := rfl
theorem k_X8_reads_73 (ca : Nat → ClassId) : k_X8_reads ca 73 = i_push (.int 44) 75 := rfl
theorem k_X8_reads_75 (ca : Nat → ClassId) : k_X8_reads ca 75 = i_callV 8 2 0 0 0 0 (sp_X8_takes ca) 78 := rfl
theorem k_X8_reads_78 (ca : Nat → ClassId) : k_X8_reads ca 78 = i_istore 2 79 := rfl
theorem k_X8_reads_79 (ca : Nat → ClassId) : k_X8_reads ca 79 = i_goto 20 := rfl
theorem k_X8_reads_82 (ca : Nat → ClassId) : k_X8_reads ca 82 = i_aload 0 83 := rfl
theorem k_X8_reads_83 (ca : Nat → ClassId) : k_X8_reads ca 83 = i_getf 8 13 86 := rfl
theorem k_X8_reads_86 (ca : Nat → ClassId) : k_X8_reads ca 86 = i_aload 0 87 := rfl
theorem k_X8_reads_87 (ca : Nat → ClassId) : k_X8_reads ca 87 = i_getf 8 5 90 := rfl
theorem k_X8_reads_90 (ca : Nat → ClassId) : k_X8_reads ca 90 = i_icmp (fun x y => y ≤ x) 97 93 := rfl
theorem k_X8_reads_93 (ca : Nat → ClassId) : k_X8_reads ca 93 = i_push (.int (-1)) 94 := rfl
theorem k_X8_reads_94 (ca : Nat → ClassId) : k_X8_reads ca 94 = i_goto 98 := rfl
theorem k_X8_reads_97 (ca : Nat → ClassId) : k_X8_reads ca 97 = i_iload 1 98 := rfl
theorem k_X8_reads_98 (ca : Nat → ClassId) : k_X8_reads ca 98 = i_ret := rfl
set_option maxHeartbeats 4000000 in
set_option maxRecDepth 20000 in
theorem ok_X8_reads (l : Launch) (D : va_G) (ca : Nat → ClassId) : OkAll l D ca yX8_reads cX8_reads 3 (some .int) 3 0 0 (sp_X8_reads ca) := by
  intro av h post hs
  obtain ⟨m, a, st, n, fm, p0, re, f, rfl, hm, h3, hd, hn, hs⟩ := hs
  have e0 := hm
  unfold eMod at e0
  have eM : ∀ x y, eMod a st (nI n) fm x y = .inr (8, [.ref (a 0), .ref (a 1), .ref (a 2), .int st, .ref (a 3), .int (nI n), .ref (a 4), .ref (a 5), .ref (a 6), .ref (a 7), .ref (a 8), .ref (a 9), .int fm, .int x, .int y]) := fun x y => rfl
  have n12 : ¬ (1 : Int32) = 2 := by decide
  refine okM_of t_X8_reads (by decide +kernel) (c1_ref c1_nil) (Nat.le_of_ble_eq_true rfl) ?_
  intro K go
  have step : ∀ k p c re0, c ≤ 8 → p ≤ n → (c < 8 → ∀ p' re1, p' ≤ n → post (some (.int (rdG f n k p' (c + 1)).1)) (va_up h m (some (eMod a st (nI n) fm (nI (rdG f n k p' (c + 1)).2.1) (rdG f n k p' (c + 1)).2.2))) → K 0 0 20 [some (.ref m), some (.int (nI (c + 1))), some (.int 1)] [] (va_up h m (some (eMod a st (nI n) fm (nI p') re1)))) → post (some (.int (rdG f n (k + 1) p c).1)) (va_up h m (some (eMod a st (nI n) fm (nI (rdG f n (k + 1) p c).2.1) (rdG f n (k + 1) p c).2.2))) → K 0 0 20 [some (.ref m), some (.int (nI c)), some (.int 1)] [] (va_up h m (some (eMod a st (nI n) fm (nI p) re0))) := by
    intro k p c re0 hc hp next hk
    rw [show rdG f n (k + 1) p c = if c = 8 ∧ p < n then (-1, p, 2) else if prtN f n p = 3 then (if takB f n (p + 3) 44 44 = true then rdG f n k (p + 4) (c + 1) else (if p + 3 < n then -1 else nI (c + 1), p + 3, 1)) else (-1, p + prtN f n p, 1) from rfl] at hk
    by_cases q : c = 8 ∧ p < n
    · rw [if_pos q] at hk
      obtain ⟨rfl, hpn⟩ := q
      have g1 : ¬ nI n ≤ nI p := nI_ge hpn (by omega)
      refine goN go (stp [62, 78]) 160 _ _ _ _ _ _ (fun F hF hF0 => ?_)
      simp only [hF, hF0, ite_not, i_push, i_iload, i_lload, i_aload, i_istore, i_astore, i_lstore, i_iinc, i_bin, i_dv, i_un, i_lbin, i_lsh, i_i2l, i_l2i, i_lcmp, i_dup, i_dup2, i_pop, i_if, i_icmp, i_goto, swG, i_sw, i_getf, i_puti, i_putz, i_putr, i_ald, i_lald, i_aald, i_ast, i_last, i_aast, i_alen, i_new, i_newi, i_newl, i_newq, i_oinit, i_ret, i_zret, i_lret, i_vret, catS, tk, rpush, isO, i_m1, i_m2, i_acopy, i_callV, i_callS, KRet, lget, lput, lputL, lcl0, isL, lv0, List.map_cons, List.map_nil, List.length_cons, List.length_nil, List.cons_append, List.nil_append, Nat.reduceAdd, Nat.reduceSub, Nat.reduceLeDiff, List.replicate_succ, List.replicate_zero, List.getElem?_cons_succ, List.getElem?_cons_zero, List.set_cons_succ, List.set_cons_zero, true_and, and_true, if_true, if_false, ↓reduceIte, Nat.le_refl, Value.category, va_up_app, eq_self, stp, Nat.reduceBEq, Bool.or_false, Bool.false_or, Bool.true_or, Bool.or_true, or_true, true_or, bx_uu, implies_true, true_implies, not_true, not_false_eq_true, false_implies, and_self, Nat.reduceLT, Int32.reduceAdd, Int32.reduceSub, Int32.reduceMul, Int32.reduceLE, Int32.reduceLT, Int32.reduceToNatClampNeg, va_rf_some, Bool.false_eq_true, k_X8_reads_0 ca, k_X8_reads_1 ca, k_X8_reads_2 ca, k_X8_reads_5 ca, k_X8_reads_6 ca, k_X8_reads_7 ca, k_X8_reads_8 ca, k_X8_reads_11 ca, k_X8_reads_14 ca, k_X8_reads_15 ca, k_X8_reads_18 ca, k_X8_reads_19 ca, k_X8_reads_20 ca, k_X8_reads_21 ca, k_X8_reads_24 ca, k_X8_reads_25 ca, k_X8_reads_26 ca, k_X8_reads_28 ca, k_X8_reads_31 ca, k_X8_reads_32 ca, k_X8_reads_35 ca, k_X8_reads_36 ca, k_X8_reads_39 ca, k_X8_reads_42 ca, k_X8_reads_43 ca, k_X8_reads_46 ca, k_X8_reads_47 ca, k_X8_reads_50 ca, k_X8_reads_51 ca, k_X8_reads_54 ca, k_X8_reads_55 ca, k_X8_reads_58 ca, k_X8_reads_59 ca, k_X8_reads_62 ca, k_X8_reads_65 ca, k_X8_reads_66 ca, k_X8_reads_67 ca, k_X8_reads_70 ca, k_X8_reads_71 ca, k_X8_reads_73 ca, k_X8_reads_75 ca, k_X8_reads_78 ca, k_X8_reads_79 ca, k_X8_reads_82 ca, k_X8_reads_83 ca, k_X8_reads_86 ca, k_X8_reads_87 ca, k_X8_reads_90 ca, k_X8_reads_93 ca, k_X8_reads_94 ca, k_X8_reads_97 ca, k_X8_reads_98 ca, eM, one0, n8, g1]
      try clear hF hF0 F
      exact hk
    · rw [if_neg q] at hk
      have part : K 0 0 58 [some (.ref m), some (.int (nI c)), some (.int 1)] [] (va_up h m (some (eMod a st (nI n) fm (nI p) 1))) := by
        refine goN go (stp [62, 78]) 160 _ _ _ _ _ _ (fun F hF hF0 => ?_)
        simp only [hF, hF0, ite_not, i_push, i_iload, i_lload, i_aload, i_istore, i_astore, i_lstore, i_iinc, i_bin, i_dv, i_un, i_lbin, i_lsh, i_i2l, i_l2i, i_lcmp, i_dup, i_dup2, i_pop, i_if, i_icmp, i_goto, swG, i_sw, i_getf, i_puti, i_putz, i_putr, i_ald, i_lald, i_aald, i_ast, i_last, i_aast, i_alen, i_new, i_newi, i_newl, i_newq, i_oinit, i_ret, i_zret, i_lret, i_vret, catS, tk, rpush, isO, i_m1, i_m2, i_acopy, i_callV, i_callS, KRet, lget, lput, lputL, lcl0, isL, lv0, List.map_cons, List.map_nil, List.length_cons, List.length_nil, List.cons_append, List.nil_append, Nat.reduceAdd, Nat.reduceSub, Nat.reduceLeDiff, List.replicate_succ, List.replicate_zero, List.getElem?_cons_succ, List.getElem?_cons_zero, List.set_cons_succ, List.set_cons_zero, true_and, and_true, if_true, if_false, ↓reduceIte, Nat.le_refl, Value.category, va_up_app, eq_self, stp, Nat.reduceBEq, Bool.or_false, Bool.false_or, Bool.true_or, Bool.or_true, or_true, true_or, bx_uu, implies_true, true_implies, not_true, not_false_eq_true, false_implies, and_self, Nat.reduceLT, Int32.reduceAdd, Int32.reduceSub, Int32.reduceMul, Int32.reduceLE, Int32.reduceLT, Int32.reduceToNatClampNeg, va_rf_some, Bool.false_eq_true, k_X8_reads_0 ca, k_X8_reads_1 ca, k_X8_reads_2 ca, k_X8_reads_5 ca, k_X8_reads_6 ca, k_X8_reads_7 ca, k_X8_reads_8 ca, k_X8_reads_11 ca, k_X8_reads_14 ca, k_X8_reads_15 ca, k_X8_reads_18 ca, k_X8_reads_19 ca, k_X8_reads_20 ca, k_X8_reads_21 ca, k_X8_reads_24 ca, k_X8_reads_25 ca, k_X8_reads_26 ca, k_X8_reads_28 ca, k_X8_reads_31 ca, k_X8_reads_32 ca, k_X8_reads_35 ca, k_X8_reads_36 ca, k_X8_reads_39 ca, k_X8_reads_42 ca, k_X8_reads_43 ca, k_X8_reads_46 ca, k_X8_reads_47 ca, k_X8_reads_50 ca, k_X8_reads_51 ca, k_X8_reads_54 ca, k_X8_reads_55 ca, k_X8_reads_58 ca, k_X8_reads_59 ca, k_X8_reads_62 ca, k_X8_reads_65 ca, k_X8_reads_66 ca, k_X8_reads_67 ca, k_X8_reads_70 ca, k_X8_reads_71 ca, k_X8_reads_73 ca, k_X8_reads_75 ca, k_X8_reads_78 ca, k_X8_reads_79 ca, k_X8_reads_82 ca, k_X8_reads_83 ca, k_X8_reads_86 ca, k_X8_reads_87 ca, k_X8_reads_90 ca, k_X8_reads_93 ca, k_X8_reads_94 ca, k_X8_reads_97 ca, k_X8_reads_98 ca, eM]
        try clear hF hF0 F
        refine ⟨m, a, st, n, fm, p, 1, f, rfl, va_up_self _ _ _, (va_up_ne _ _ hd).trans h3, hd, hn, by omega, ?_⟩
        rw [bx_uu]
        by_cases q3 : prtN f n p = 3
        · rw [if_pos q3] at hk
          have l3 := prtN_3 q3
          rw [q3, decide_eq_true rfl, b2i_t]
          refine goN go (stp [78]) 160 _ _ _ _ _ _ (fun F hF hF0 => ?_)
          simp only [hF, hF0, ite_not, i_push, i_iload, i_lload, i_aload, i_istore, i_astore, i_lstore, i_iinc, i_bin, i_dv, i_un, i_lbin, i_lsh, i_i2l, i_l2i, i_lcmp, i_dup, i_dup2, i_pop, i_if, i_icmp, i_goto, swG, i_sw, i_getf, i_puti, i_putz, i_putr, i_ald, i_lald, i_aald, i_ast, i_last, i_aast, i_alen, i_new, i_newi, i_newl, i_newq, i_oinit, i_ret, i_zret, i_lret, i_vret, catS, tk, rpush, isO, i_m1, i_m2, i_acopy, i_callV, i_callS, KRet, lget, lput, lputL, lcl0, isL, lv0, List.map_cons, List.map_nil, List.length_cons, List.length_nil, List.cons_append, List.nil_append, Nat.reduceAdd, Nat.reduceSub, Nat.reduceLeDiff, List.replicate_succ, List.replicate_zero, List.getElem?_cons_succ, List.getElem?_cons_zero, List.set_cons_succ, List.set_cons_zero, true_and, and_true, if_true, if_false, ↓reduceIte, Nat.le_refl, Value.category, va_up_app, eq_self, stp, Nat.reduceBEq, Bool.or_false, Bool.false_or, Bool.true_or, Bool.or_true, or_true, true_or, bx_uu, implies_true, true_implies, not_true, not_false_eq_true, false_implies, and_self, Nat.reduceLT, Int32.reduceAdd, Int32.reduceSub, Int32.reduceMul, Int32.reduceLE, Int32.reduceLT, Int32.reduceToNatClampNeg, va_rf_some, Bool.false_eq_true, k_X8_reads_0 ca, k_X8_reads_1 ca, k_X8_reads_2 ca, k_X8_reads_5 ca, k_X8_reads_6 ca, k_X8_reads_7 ca, k_X8_reads_8 ca, k_X8_reads_11 ca, k_X8_reads_14 ca, k_X8_reads_15 ca, k_X8_reads_18 ca, k_X8_reads_19 ca, k_X8_reads_20 ca, k_X8_reads_21 ca, k_X8_reads_24 ca, k_X8_reads_25 ca, k_X8_reads_26 ca, k_X8_reads_28 ca, k_X8_reads_31 ca, k_X8_reads_32 ca, k_X8_reads_35 ca, k_X8_reads_36 ca, k_X8_reads_39 ca, k_X8_reads_42 ca, k_X8_reads_43 ca, k_X8_reads_46 ca, k_X8_reads_47 ca, k_X8_reads_50 ca, k_X8_reads_51 ca, k_X8_reads_54 ca, k_X8_reads_55 ca, k_X8_reads_58 ca, k_X8_reads_59 ca, k_X8_reads_62 ca, k_X8_reads_65 ca, k_X8_reads_66 ca, k_X8_reads_67 ca, k_X8_reads_70 ca, k_X8_reads_71 ca, k_X8_reads_73 ca, k_X8_reads_75 ca, k_X8_reads_78 ca, k_X8_reads_79 ca, k_X8_reads_82 ca, k_X8_reads_83 ca, k_X8_reads_86 ca, k_X8_reads_87 ca, k_X8_reads_90 ca, k_X8_reads_93 ca, k_X8_reads_94 ca, k_X8_reads_97 ca, k_X8_reads_98 ca, eM, one0, a_1]
          try clear hF hF0 F
          refine ⟨m, a, st, n, fm, p + 3, 1, f, 44, 44, rfl, va_up_self _ _ _, (va_up_ne _ _ hd).trans h3, hn, by omega, ?_⟩
          rw [bx_uu]
          cases q4 : takB f n (p + 3) 44 44 with
          | true =>
            rw [q4, if_pos rfl] at hk
            rw [b2i_t, if_pos rfl]
            have k0 := next (by omega) (p + 4) 1 (by have := takB_lt q4; omega) hk
            refine goN go (stp [20]) 160 _ _ _ _ _ _ (fun F hF hF0 => ?_)
            simp only [hF, hF0, ite_not, i_push, i_iload, i_lload, i_aload, i_istore, i_astore, i_lstore, i_iinc, i_bin, i_dv, i_un, i_lbin, i_lsh, i_i2l, i_l2i, i_lcmp, i_dup, i_dup2, i_pop, i_if, i_icmp, i_goto, swG, i_sw, i_getf, i_puti, i_putz, i_putr, i_ald, i_lald, i_aald, i_ast, i_last, i_aast, i_alen, i_new, i_newi, i_newl, i_newq, i_oinit, i_ret, i_zret, i_lret, i_vret, catS, tk, rpush, isO, i_m1, i_m2, i_acopy, i_callV, i_callS, KRet, lget, lput, lputL, lcl0, isL, lv0, List.map_cons, List.map_nil, List.length_cons, List.length_nil, List.cons_append, List.nil_append, Nat.reduceAdd, Nat.reduceSub, Nat.reduceLeDiff, List.replicate_succ, List.replicate_zero, List.getElem?_cons_succ, List.getElem?_cons_zero, List.set_cons_succ, List.set_cons_zero, true_and, and_true, if_true, if_false, ↓reduceIte, Nat.le_refl, Value.category, va_up_app, eq_self, stp, Nat.reduceBEq, Bool.or_false, Bool.false_or, Bool.true_or, Bool.or_true, or_true, true_or, bx_uu, implies_true, true_implies, not_true, not_false_eq_true, false_implies, and_self, Nat.reduceLT, Int32.reduceAdd, Int32.reduceSub, Int32.reduceMul, Int32.reduceLE, Int32.reduceLT, Int32.reduceToNatClampNeg, va_rf_some, Bool.false_eq_true, k_X8_reads_0 ca, k_X8_reads_1 ca, k_X8_reads_2 ca, k_X8_reads_5 ca, k_X8_reads_6 ca, k_X8_reads_7 ca, k_X8_reads_8 ca, k_X8_reads_11 ca, k_X8_reads_14 ca, k_X8_reads_15 ca, k_X8_reads_18 ca, k_X8_reads_19 ca, k_X8_reads_20 ca, k_X8_reads_21 ca, k_X8_reads_24 ca, k_X8_reads_25 ca, k_X8_reads_26 ca, k_X8_reads_28 ca, k_X8_reads_31 ca, k_X8_reads_32 ca, k_X8_reads_35 ca, k_X8_reads_36 ca, k_X8_reads_39 ca, k_X8_reads_42 ca, k_X8_reads_43 ca, k_X8_reads_46 ca, k_X8_reads_47 ca, k_X8_reads_50 ca, k_X8_reads_51 ca, k_X8_reads_54 ca, k_X8_reads_55 ca, k_X8_reads_58 ca, k_X8_reads_59 ca, k_X8_reads_62 ca, k_X8_reads_65 ca, k_X8_reads_66 ca, k_X8_reads_67 ca, k_X8_reads_70 ca, k_X8_reads_71 ca, k_X8_reads_73 ca, k_X8_reads_75 ca, k_X8_reads_78 ca, k_X8_reads_79 ca, k_X8_reads_82 ca, k_X8_reads_83 ca, k_X8_reads_86 ca, k_X8_reads_87 ca, k_X8_reads_90 ca, k_X8_reads_93 ca, k_X8_reads_94 ca, k_X8_reads_97 ca, k_X8_reads_98 ca, eM]
            try clear hF hF0 F
            exact k0
          | false =>
            rw [q4, if_neg (by decide)] at hk
            rw [b2i_f, if_neg (by decide)]
            have e4 : (nI n ≤ nI (p + 3)) = (n ≤ p + 3) := propext (nI_leI (by omega) (by omega))
            by_cases q5 : p + 3 < n
            · rw [if_pos q5] at hk
              have e5 : (n ≤ p + 3) = False := eq_false (by omega)
              refine goN go (stp []) 160 _ _ _ _ _ _ (fun F hF hF0 => ?_)
              simp only [hF, hF0, ite_not, i_push, i_iload, i_lload, i_aload, i_istore, i_astore, i_lstore, i_iinc, i_bin, i_dv, i_un, i_lbin, i_lsh, i_i2l, i_l2i, i_lcmp, i_dup, i_dup2, i_pop, i_if, i_icmp, i_goto, swG, i_sw, i_getf, i_puti, i_putz, i_putr, i_ald, i_lald, i_aald, i_ast, i_last, i_aast, i_alen, i_new, i_newi, i_newl, i_newq, i_oinit, i_ret, i_zret, i_lret, i_vret, catS, tk, rpush, isO, i_m1, i_m2, i_acopy, i_callV, i_callS, KRet, lget, lput, lputL, lcl0, isL, lv0, List.map_cons, List.map_nil, List.length_cons, List.length_nil, List.cons_append, List.nil_append, Nat.reduceAdd, Nat.reduceSub, Nat.reduceLeDiff, List.replicate_succ, List.replicate_zero, List.getElem?_cons_succ, List.getElem?_cons_zero, List.set_cons_succ, List.set_cons_zero, true_and, and_true, if_true, if_false, ↓reduceIte, Nat.le_refl, Value.category, va_up_app, eq_self, stp, Nat.reduceBEq, Bool.or_false, Bool.false_or, Bool.true_or, Bool.or_true, or_true, true_or, bx_uu, implies_true, true_implies, not_true, not_false_eq_true, false_implies, and_self, Nat.reduceLT, Int32.reduceAdd, Int32.reduceSub, Int32.reduceMul, Int32.reduceLE, Int32.reduceLT, Int32.reduceToNatClampNeg, va_rf_some, Bool.false_eq_true, k_X8_reads_0 ca, k_X8_reads_1 ca, k_X8_reads_2 ca, k_X8_reads_5 ca, k_X8_reads_6 ca, k_X8_reads_7 ca, k_X8_reads_8 ca, k_X8_reads_11 ca, k_X8_reads_14 ca, k_X8_reads_15 ca, k_X8_reads_18 ca, k_X8_reads_19 ca, k_X8_reads_20 ca, k_X8_reads_21 ca, k_X8_reads_24 ca, k_X8_reads_25 ca, k_X8_reads_26 ca, k_X8_reads_28 ca, k_X8_reads_31 ca, k_X8_reads_32 ca, k_X8_reads_35 ca, k_X8_reads_36 ca, k_X8_reads_39 ca, k_X8_reads_42 ca, k_X8_reads_43 ca, k_X8_reads_46 ca, k_X8_reads_47 ca, k_X8_reads_50 ca, k_X8_reads_51 ca, k_X8_reads_54 ca, k_X8_reads_55 ca, k_X8_reads_58 ca, k_X8_reads_59 ca, k_X8_reads_62 ca, k_X8_reads_65 ca, k_X8_reads_66 ca, k_X8_reads_67 ca, k_X8_reads_70 ca, k_X8_reads_71 ca, k_X8_reads_73 ca, k_X8_reads_75 ca, k_X8_reads_78 ca, k_X8_reads_79 ca, k_X8_reads_82 ca, k_X8_reads_83 ca, k_X8_reads_86 ca, k_X8_reads_87 ca, k_X8_reads_90 ca, k_X8_reads_93 ca, k_X8_reads_94 ca, k_X8_reads_97 ca, k_X8_reads_98 ca, eM, e4, e5, Nat.add_zero]
              try clear hF hF0 F
              exact hk
            · rw [if_neg q5] at hk
              have e5 : (n ≤ p + 3) = True := eq_true (by omega)
              refine goN go (stp []) 160 _ _ _ _ _ _ (fun F hF hF0 => ?_)
              simp only [hF, hF0, ite_not, i_push, i_iload, i_lload, i_aload, i_istore, i_astore, i_lstore, i_iinc, i_bin, i_dv, i_un, i_lbin, i_lsh, i_i2l, i_l2i, i_lcmp, i_dup, i_dup2, i_pop, i_if, i_icmp, i_goto, swG, i_sw, i_getf, i_puti, i_putz, i_putr, i_ald, i_lald, i_aald, i_ast, i_last, i_aast, i_alen, i_new, i_newi, i_newl, i_newq, i_oinit, i_ret, i_zret, i_lret, i_vret, catS, tk, rpush, isO, i_m1, i_m2, i_acopy, i_callV, i_callS, KRet, lget, lput, lputL, lcl0, isL, lv0, List.map_cons, List.map_nil, List.length_cons, List.length_nil, List.cons_append, List.nil_append, Nat.reduceAdd, Nat.reduceSub, Nat.reduceLeDiff, List.replicate_succ, List.replicate_zero, List.getElem?_cons_succ, List.getElem?_cons_zero, List.set_cons_succ, List.set_cons_zero, true_and, and_true, if_true, if_false, ↓reduceIte, Nat.le_refl, Value.category, va_up_app, eq_self, stp, Nat.reduceBEq, Bool.or_false, Bool.false_or, Bool.true_or, Bool.or_true, or_true, true_or, bx_uu, implies_true, true_implies, not_true, not_false_eq_true, false_implies, and_self, Nat.reduceLT, Int32.reduceAdd, Int32.reduceSub, Int32.reduceMul, Int32.reduceLE, Int32.reduceLT, Int32.reduceToNatClampNeg, va_rf_some, Bool.false_eq_true, k_X8_reads_0 ca, k_X8_reads_1 ca, k_X8_reads_2 ca, k_X8_reads_5 ca, k_X8_reads_6 ca, k_X8_reads_7 ca, k_X8_reads_8 ca, k_X8_reads_11 ca, k_X8_reads_14 ca, k_X8_reads_15 ca, k_X8_reads_18 ca, k_X8_reads_19 ca, k_X8_reads_20 ca, k_X8_reads_21 ca, k_X8_reads_24 ca, k_X8_reads_25 ca, k_X8_reads_26 ca, k_X8_reads_28 ca, k_X8_reads_31 ca, k_X8_reads_32 ca, k_X8_reads_35 ca, k_X8_reads_36 ca, k_X8_reads_39 ca, k_X8_reads_42 ca, k_X8_reads_43 ca, k_X8_reads_46 ca, k_X8_reads_47 ca, k_X8_reads_50 ca, k_X8_reads_51 ca, k_X8_reads_54 ca, k_X8_reads_55 ca, k_X8_reads_58 ca, k_X8_reads_59 ca, k_X8_reads_62 ca, k_X8_reads_65 ca, k_X8_reads_66 ca, k_X8_reads_67 ca, k_X8_reads_70 ca, k_X8_reads_71 ca, k_X8_reads_73 ca, k_X8_reads_75 ca, k_X8_reads_78 ca, k_X8_reads_79 ca, k_X8_reads_82 ca, k_X8_reads_83 ca, k_X8_reads_86 ca, k_X8_reads_87 ca, k_X8_reads_90 ca, k_X8_reads_93 ca, k_X8_reads_94 ca, k_X8_reads_97 ca, k_X8_reads_98 ca, eM, e4, e5, Nat.add_zero]
              try clear hF hF0 F
              exact hk
        · rw [if_neg q3] at hk
          rw [decide_eq_false q3, b2i_f]
          refine goN go (stp []) 160 _ _ _ _ _ _ (fun F hF hF0 => ?_)
          simp only [hF, hF0, ite_not, i_push, i_iload, i_lload, i_aload, i_istore, i_astore, i_lstore, i_iinc, i_bin, i_dv, i_un, i_lbin, i_lsh, i_i2l, i_l2i, i_lcmp, i_dup, i_dup2, i_pop, i_if, i_icmp, i_goto, swG, i_sw, i_getf, i_puti, i_putz, i_putr, i_ald, i_lald, i_aald, i_ast, i_last, i_aast, i_alen, i_new, i_newi, i_newl, i_newq, i_oinit, i_ret, i_zret, i_lret, i_vret, catS, tk, rpush, isO, i_m1, i_m2, i_acopy, i_callV, i_callS, KRet, lget, lput, lputL, lcl0, isL, lv0, List.map_cons, List.map_nil, List.length_cons, List.length_nil, List.cons_append, List.nil_append, Nat.reduceAdd, Nat.reduceSub, Nat.reduceLeDiff, List.replicate_succ, List.replicate_zero, List.getElem?_cons_succ, List.getElem?_cons_zero, List.set_cons_succ, List.set_cons_zero, true_and, and_true, if_true, if_false, ↓reduceIte, Nat.le_refl, Value.category, va_up_app, eq_self, stp, Nat.reduceBEq, Bool.or_false, Bool.false_or, Bool.true_or, Bool.or_true, or_true, true_or, bx_uu, implies_true, true_implies, not_true, not_false_eq_true, false_implies, and_self, Nat.reduceLT, Int32.reduceAdd, Int32.reduceSub, Int32.reduceMul, Int32.reduceLE, Int32.reduceLT, Int32.reduceToNatClampNeg, va_rf_some, Bool.false_eq_true, k_X8_reads_0 ca, k_X8_reads_1 ca, k_X8_reads_2 ca, k_X8_reads_5 ca, k_X8_reads_6 ca, k_X8_reads_7 ca, k_X8_reads_8 ca, k_X8_reads_11 ca, k_X8_reads_14 ca, k_X8_reads_15 ca, k_X8_reads_18 ca, k_X8_reads_19 ca, k_X8_reads_20 ca, k_X8_reads_21 ca, k_X8_reads_24 ca, k_X8_reads_25 ca, k_X8_reads_26 ca, k_X8_reads_28 ca, k_X8_reads_31 ca, k_X8_reads_32 ca, k_X8_reads_35 ca, k_X8_reads_36 ca, k_X8_reads_39 ca, k_X8_reads_42 ca, k_X8_reads_43 ca, k_X8_reads_46 ca, k_X8_reads_47 ca, k_X8_reads_50 ca, k_X8_reads_51 ca, k_X8_reads_54 ca, k_X8_reads_55 ca, k_X8_reads_58 ca, k_X8_reads_59 ca, k_X8_reads_62 ca, k_X8_reads_65 ca, k_X8_reads_66 ca, k_X8_reads_67 ca, k_X8_reads_70 ca, k_X8_reads_71 ca, k_X8_reads_73 ca, k_X8_reads_75 ca, k_X8_reads_78 ca, k_X8_reads_79 ca, k_X8_reads_82 ca, k_X8_reads_83 ca, k_X8_reads_86 ca, k_X8_reads_87 ca, k_X8_reads_90 ca, k_X8_reads_93 ca, k_X8_reads_94 ca, k_X8_reads_97 ca, k_X8_reads_98 ca, eM]
          try clear hF hF0 F
          exact hk
      by_cases q8 : c = 8
      · subst q8
        have g1 : (nI n ≤ nI p) = True := eq_true (nI_le (by omega) (by omega))
        refine goN go (stp [58]) 160 _ _ _ _ _ _ (fun F hF hF0 => ?_)
        simp only [hF, hF0, ite_not, i_push, i_iload, i_lload, i_aload, i_istore, i_astore, i_lstore, i_iinc, i_bin, i_dv, i_un, i_lbin, i_lsh, i_i2l, i_l2i, i_lcmp, i_dup, i_dup2, i_pop, i_if, i_icmp, i_goto, swG, i_sw, i_getf, i_puti, i_putz, i_putr, i_ald, i_lald, i_aald, i_ast, i_last, i_aast, i_alen, i_new, i_newi, i_newl, i_newq, i_oinit, i_ret, i_zret, i_lret, i_vret, catS, tk, rpush, isO, i_m1, i_m2, i_acopy, i_callV, i_callS, KRet, lget, lput, lputL, lcl0, isL, lv0, List.map_cons, List.map_nil, List.length_cons, List.length_nil, List.cons_append, List.nil_append, Nat.reduceAdd, Nat.reduceSub, Nat.reduceLeDiff, List.replicate_succ, List.replicate_zero, List.getElem?_cons_succ, List.getElem?_cons_zero, List.set_cons_succ, List.set_cons_zero, true_and, and_true, if_true, if_false, ↓reduceIte, Nat.le_refl, Value.category, va_up_app, eq_self, stp, Nat.reduceBEq, Bool.or_false, Bool.false_or, Bool.true_or, Bool.or_true, or_true, true_or, bx_uu, implies_true, true_implies, not_true, not_false_eq_true, false_implies, and_self, Nat.reduceLT, Int32.reduceAdd, Int32.reduceSub, Int32.reduceMul, Int32.reduceLE, Int32.reduceLT, Int32.reduceToNatClampNeg, va_rf_some, Bool.false_eq_true, k_X8_reads_0 ca, k_X8_reads_1 ca, k_X8_reads_2 ca, k_X8_reads_5 ca, k_X8_reads_6 ca, k_X8_reads_7 ca, k_X8_reads_8 ca, k_X8_reads_11 ca, k_X8_reads_14 ca, k_X8_reads_15 ca, k_X8_reads_18 ca, k_X8_reads_19 ca, k_X8_reads_20 ca, k_X8_reads_21 ca, k_X8_reads_24 ca, k_X8_reads_25 ca, k_X8_reads_26 ca, k_X8_reads_28 ca, k_X8_reads_31 ca, k_X8_reads_32 ca, k_X8_reads_35 ca, k_X8_reads_36 ca, k_X8_reads_39 ca, k_X8_reads_42 ca, k_X8_reads_43 ca, k_X8_reads_46 ca, k_X8_reads_47 ca, k_X8_reads_50 ca, k_X8_reads_51 ca, k_X8_reads_54 ca, k_X8_reads_55 ca, k_X8_reads_58 ca, k_X8_reads_59 ca, k_X8_reads_62 ca, k_X8_reads_65 ca, k_X8_reads_66 ca, k_X8_reads_67 ca, k_X8_reads_70 ca, k_X8_reads_71 ca, k_X8_reads_73 ca, k_X8_reads_75 ca, k_X8_reads_78 ca, k_X8_reads_79 ca, k_X8_reads_82 ca, k_X8_reads_83 ca, k_X8_reads_86 ca, k_X8_reads_87 ca, k_X8_reads_90 ca, k_X8_reads_93 ca, k_X8_reads_94 ca, k_X8_reads_97 ca, k_X8_reads_98 ca, eM, one0, n8, g1, n12]
        try clear hF hF0 F
        exact part
      · have g8 : ¬ nI c = 8 := fun z => q8 ((nI_eq (b := 8) (by omega) (by decide)).mp z)
        refine goN go (stp [58]) 160 _ _ _ _ _ _ (fun F hF hF0 => ?_)
        simp only [hF, hF0, ite_not, i_push, i_iload, i_lload, i_aload, i_istore, i_astore, i_lstore, i_iinc, i_bin, i_dv, i_un, i_lbin, i_lsh, i_i2l, i_l2i, i_lcmp, i_dup, i_dup2, i_pop, i_if, i_icmp, i_goto, swG, i_sw, i_getf, i_puti, i_putz, i_putr, i_ald, i_lald, i_aald, i_ast, i_last, i_aast, i_alen, i_new, i_newi, i_newl, i_newq, i_oinit, i_ret, i_zret, i_lret, i_vret, catS, tk, rpush, isO, i_m1, i_m2, i_acopy, i_callV, i_callS, KRet, lget, lput, lputL, lcl0, isL, lv0, List.map_cons, List.map_nil, List.length_cons, List.length_nil, List.cons_append, List.nil_append, Nat.reduceAdd, Nat.reduceSub, Nat.reduceLeDiff, List.replicate_succ, List.replicate_zero, List.getElem?_cons_succ, List.getElem?_cons_zero, List.set_cons_succ, List.set_cons_zero, true_and, and_true, if_true, if_false, ↓reduceIte, Nat.le_refl, Value.category, va_up_app, eq_self, stp, Nat.reduceBEq, Bool.or_false, Bool.false_or, Bool.true_or, Bool.or_true, or_true, true_or, bx_uu, implies_true, true_implies, not_true, not_false_eq_true, false_implies, and_self, Nat.reduceLT, Int32.reduceAdd, Int32.reduceSub, Int32.reduceMul, Int32.reduceLE, Int32.reduceLT, Int32.reduceToNatClampNeg, va_rf_some, Bool.false_eq_true, k_X8_reads_0 ca, k_X8_reads_1 ca, k_X8_reads_2 ca, k_X8_reads_5 ca, k_X8_reads_6 ca, k_X8_reads_7 ca, k_X8_reads_8 ca, k_X8_reads_11 ca, k_X8_reads_14 ca, k_X8_reads_15 ca, k_X8_reads_18 ca, k_X8_reads_19 ca, k_X8_reads_20 ca, k_X8_reads_21 ca, k_X8_reads_24 ca, k_X8_reads_25 ca, k_X8_reads_26 ca, k_X8_reads_28 ca, k_X8_reads_31 ca, k_X8_reads_32 ca, k_X8_reads_35 ca, k_X8_reads_36 ca, k_X8_reads_39 ca, k_X8_reads_42 ca, k_X8_reads_43 ca, k_X8_reads_46 ca, k_X8_reads_47 ca, k_X8_reads_50 ca, k_X8_reads_51 ca, k_X8_reads_54 ca, k_X8_reads_55 ca, k_X8_reads_58 ca, k_X8_reads_59 ca, k_X8_reads_62 ca, k_X8_reads_65 ca, k_X8_reads_66 ca, k_X8_reads_67 ca, k_X8_reads_70 ca, k_X8_reads_71 ca, k_X8_reads_73 ca, k_X8_reads_75 ca, k_X8_reads_78 ca, k_X8_reads_79 ca, k_X8_reads_82 ca, k_X8_reads_83 ca, k_X8_reads_86 ca, k_X8_reads_87 ca, k_X8_reads_90 ca, k_X8_reads_93 ca, k_X8_reads_94 ca, k_X8_reads_97 ca, k_X8_reads_98 ca, eM, one0, g8, n12]
        try clear hF hF0 F
        exact part
  have key : ∀ k p c re0, c + k = 8 → p ≤ n → post (some (.int (rdG f n (k + 1) p c).1)) (va_up h m (some (eMod a st (nI n) fm (nI (rdG f n (k + 1) p c).2.1) (rdG f n (k + 1) p c).2.2))) → K 0 0 20 [some (.ref m), some (.int (nI c)), some (.int 1)] [] (va_up h m (some (eMod a st (nI n) fm (nI p) re0))) := by
    intro k
    induction k with
    | zero => exact fun p c re0 hc hp hk => step 0 p c re0 (by omega) hp (fun z => absurd z (by omega)) hk
    | succ k ih => exact fun p c re0 hc hp hk => step (k + 1) p c re0 (by omega) hp (fun _ p' re1 hp' hk' => ih p' (c + 1) re1 (by omega) hp' hk') hk
  clear step
  unfold rdF at hs
  by_cases q : n = 0
  · rw [if_pos q] at hs
    have g1 : (nI n ≤ 0) = True := eq_true (by rw [q]; decide)
    have g2 : (nI n ≤ 0) = True := g1
    refine goN go (stp []) 160 _ _ _ _ _ _ (fun F hF hF0 => ?_)
    simp only [hF, hF0, ite_not, i_push, i_iload, i_lload, i_aload, i_istore, i_astore, i_lstore, i_iinc, i_bin, i_dv, i_un, i_lbin, i_lsh, i_i2l, i_l2i, i_lcmp, i_dup, i_dup2, i_pop, i_if, i_icmp, i_goto, swG, i_sw, i_getf, i_puti, i_putz, i_putr, i_ald, i_lald, i_aald, i_ast, i_last, i_aast, i_alen, i_new, i_newi, i_newl, i_newq, i_oinit, i_ret, i_zret, i_lret, i_vret, catS, tk, rpush, isO, i_m1, i_m2, i_acopy, i_callV, i_callS, KRet, lget, lput, lputL, lcl0, isL, lv0, List.map_cons, List.map_nil, List.length_cons, List.length_nil, List.cons_append, List.nil_append, Nat.reduceAdd, Nat.reduceSub, Nat.reduceLeDiff, List.replicate_succ, List.replicate_zero, List.getElem?_cons_succ, List.getElem?_cons_zero, List.set_cons_succ, List.set_cons_zero, true_and, and_true, if_true, if_false, ↓reduceIte, Nat.le_refl, Value.category, va_up_app, eq_self, stp, Nat.reduceBEq, Bool.or_false, Bool.false_or, Bool.true_or, Bool.or_true, or_true, true_or, bx_uu, implies_true, true_implies, not_true, not_false_eq_true, false_implies, and_self, Nat.reduceLT, Int32.reduceAdd, Int32.reduceSub, Int32.reduceMul, Int32.reduceLE, Int32.reduceLT, Int32.reduceToNatClampNeg, va_rf_some, Bool.false_eq_true, k_X8_reads_0 ca, k_X8_reads_1 ca, k_X8_reads_2 ca, k_X8_reads_5 ca, k_X8_reads_6 ca, k_X8_reads_7 ca, k_X8_reads_8 ca, k_X8_reads_11 ca, k_X8_reads_14 ca, k_X8_reads_15 ca, k_X8_reads_18 ca, k_X8_reads_19 ca, k_X8_reads_20 ca, k_X8_reads_21 ca, k_X8_reads_24 ca, k_X8_reads_25 ca, k_X8_reads_26 ca, k_X8_reads_28 ca, k_X8_reads_31 ca, k_X8_reads_32 ca, k_X8_reads_35 ca, k_X8_reads_36 ca, k_X8_reads_39 ca, k_X8_reads_42 ca, k_X8_reads_43 ca, k_X8_reads_46 ca, k_X8_reads_47 ca, k_X8_reads_50 ca, k_X8_reads_51 ca, k_X8_reads_54 ca, k_X8_reads_55 ca, k_X8_reads_58 ca, k_X8_reads_59 ca, k_X8_reads_62 ca, k_X8_reads_65 ca, k_X8_reads_66 ca, k_X8_reads_67 ca, k_X8_reads_70 ca, k_X8_reads_71 ca, k_X8_reads_73 ca, k_X8_reads_75 ca, k_X8_reads_78 ca, k_X8_reads_79 ca, k_X8_reads_82 ca, k_X8_reads_83 ca, k_X8_reads_86 ca, k_X8_reads_87 ca, k_X8_reads_90 ca, k_X8_reads_93 ca, k_X8_reads_94 ca, k_X8_reads_97 ca, k_X8_reads_98 ca, e0, g1]
    try clear hF hF0 F
    exact hs
  · rw [if_neg q] at hs
    have g1 : (nI n ≤ 0) = False := eq_false (nI_nle (by omega) (by omega))
    have k0 := key 8 0 0 re (by omega) (by omega) hs
    rw [nI_0] at k0
    refine goN go (stp [20]) 160 _ _ _ _ _ _ (fun F hF hF0 => ?_)
    simp only [hF, hF0, ite_not, i_push, i_iload, i_lload, i_aload, i_istore, i_astore, i_lstore, i_iinc, i_bin, i_dv, i_un, i_lbin, i_lsh, i_i2l, i_l2i, i_lcmp, i_dup, i_dup2, i_pop, i_if, i_icmp, i_goto, swG, i_sw, i_getf, i_puti, i_putz, i_putr, i_ald, i_lald, i_aald, i_ast, i_last, i_aast, i_alen, i_new, i_newi, i_newl, i_newq, i_oinit, i_ret, i_zret, i_lret, i_vret, catS, tk, rpush, isO, i_m1, i_m2, i_acopy, i_callV, i_callS, KRet, lget, lput, lputL, lcl0, isL, lv0, List.map_cons, List.map_nil, List.length_cons, List.length_nil, List.cons_append, List.nil_append, Nat.reduceAdd, Nat.reduceSub, Nat.reduceLeDiff, List.replicate_succ, List.replicate_zero, List.getElem?_cons_succ, List.getElem?_cons_zero, List.set_cons_succ, List.set_cons_zero, true_and, and_true, if_true, if_false, ↓reduceIte, Nat.le_refl, Value.category, va_up_app, eq_self, stp, Nat.reduceBEq, Bool.or_false, Bool.false_or, Bool.true_or, Bool.or_true, or_true, true_or, bx_uu, implies_true, true_implies, not_true, not_false_eq_true, false_implies, and_self, Nat.reduceLT, Int32.reduceAdd, Int32.reduceSub, Int32.reduceMul, Int32.reduceLE, Int32.reduceLT, Int32.reduceToNatClampNeg, va_rf_some, Bool.false_eq_true, k_X8_reads_0 ca, k_X8_reads_1 ca, k_X8_reads_2 ca, k_X8_reads_5 ca, k_X8_reads_6 ca, k_X8_reads_7 ca, k_X8_reads_8 ca, k_X8_reads_11 ca, k_X8_reads_14 ca, k_X8_reads_15 ca, k_X8_reads_18 ca, k_X8_reads_19 ca, k_X8_reads_20 ca, k_X8_reads_21 ca, k_X8_reads_24 ca, k_X8_reads_25 ca, k_X8_reads_26 ca, k_X8_reads_28 ca, k_X8_reads_31 ca, k_X8_reads_32 ca, k_X8_reads_35 ca, k_X8_reads_36 ca, k_X8_reads_39 ca, k_X8_reads_42 ca, k_X8_reads_43 ca, k_X8_reads_46 ca, k_X8_reads_47 ca, k_X8_reads_50 ca, k_X8_reads_51 ca, k_X8_reads_54 ca, k_X8_reads_55 ca, k_X8_reads_58 ca, k_X8_reads_59 ca, k_X8_reads_62 ca, k_X8_reads_65 ca, k_X8_reads_66 ca, k_X8_reads_67 ca, k_X8_reads_70 ca, k_X8_reads_71 ca, k_X8_reads_73 ca, k_X8_reads_75 ca, k_X8_reads_78 ca, k_X8_reads_79 ca, k_X8_reads_82 ca, k_X8_reads_83 ca, k_X8_reads_86 ca, k_X8_reads_87 ca, k_X8_reads_90 ca, k_X8_reads_93 ca, k_X8_reads_94 ca, k_X8_reads_97 ca, k_X8_reads_98 ca, e0, g1]
    try clear hF hF0 F
    exact k0
