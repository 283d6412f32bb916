/-! State: sums of rates, a tick, copies, the key -/
def sp_X4_sumRates (ca : Nat → ClassId) : SPEC := fun av h post => ∃ b s, av = [.ref (b 0)] ∧ Inj b ∧ SAt ca h b s ∧ WfS s ∧ ∀ h', SAt ca h' b s → Ar h' (b 5) (ca 0) 3 (fun k => rt s (10 + 32 * k)) → (∀ x, ¬ x = b 5 → h' x = h x) → post none h'
theorem u012 {f : Nat → Int32} {x y z : Int32} {g : Nat → Int32} (h0 : g 0 = x) (h1 : g 1 = y) (h2 : g 2 = z) : ∀ i, i < 3 → upd (upd (upd f 0 x) 1 y) 2 z i = g i := by
  intro i hi
  have : i = 0 ∨ i = 1 ∨ i = 2 := by omega
  rcases this with rfl | rfl | rfl
  · rw [pk_un (by decide), pk_un (by decide), pk_us, h0]
  · rw [pk_un (by decide), pk_us, h1]
  · rw [pk_us, h2]
def k_X4_sumRates (ca : Nat → ClassId) : Nat → IT := fun pc => lk pc [(0, i_push (.int 0) 1),
  (1, i_istore 1 2),
  (2, i_iload 1 3),
  (3, i_push (.int 3) 4),
  (4, i_icmp (fun x y => y ≤ x) 32 7),
  (7, i_aload 0 8),
  (8, i_getf 4 6 11),
  (11, i_iload 1 12),
  (12, i_aload 0 13),
  (13, i_getf 4 2 16),
  (16, i_iload 1 17),
  (17, i_aald (ca 6) 18),
  (18, i_aload 0 19),
  (19, i_getf 4 0 22),
  (22, i_callV 5 1 0 0 0 0 (sp_X5_rate ca) 25),
  (25, i_ast (fun x => x) (ca 0) 26),
  (26, i_iinc 1 1 29),
  (29, i_goto 2),
  (32, i_vret)]
set_option maxRecDepth 20000 in
theorem t_X4_sumRates : Tb k_X4_sumRates yX4_sumRates cX4_sumRates 2 none 2 0 0 := by
  intro l D ca A p e s m args below meth c post X
  unfold k_X4_sumRates
  refine snd_cons (snd_iconst X dX4_sumRates_0 (by decide)) ?_
  refine snd_cons (snd_istore_n X dX4_sumRates_1 rfl (by decide)) ?_
  refine snd_cons (snd_iload_n X dX4_sumRates_2 rfl) ?_
  refine snd_cons (snd_iconst X dX4_sumRates_3 (by decide)) ?_
  refine snd_cons (snd_icmp_ge X dX4_sumRates_4 (by decide)) ?_
  refine snd_cons (snd_aload_n X dX4_sumRates_7 rfl) ?_
  refine snd_cons (snd_getf X Fk4 6 (by decide) w_135 dX4_sumRates_8) ?_
  refine snd_cons (snd_iload_n X dX4_sumRates_11 rfl) ?_
  refine snd_cons (snd_aload_n X dX4_sumRates_12 rfl) ?_
  refine snd_cons (snd_getf X Fk4 2 (by decide) w_127 dX4_sumRates_13) ?_
  refine snd_cons (snd_iload_n X dX4_sumRates_16 rfl) ?_
  refine snd_cons (snd_aaload X 6 rfl dX4_sumRates_17) ?_
  refine snd_cons (snd_aload_n X dX4_sumRates_18 rfl) ?_
  refine snd_cons (snd_getf X Fk4 0 (by decide) w_122 dX4_sumRates_19) ?_
  refine snd_cons (snd_callV X Fk5 (ok_X5_rate l D ca) rfl rfl w_346 w_335 w_336 w_3 w_337 (by decide) (by decide) dX4_sumRates_22) ?_
  refine snd_cons (snd_iastore X dX4_sumRates_25) ?_
  refine snd_cons (snd_iinc X dX4_sumRates_26 (by decide) (by decide)) ?_
  refine snd_cons (snd_goto X dX4_sumRates_29 (by decide)) ?_
  refine snd_cons (snd_vret X dX4_sumRates_32) ?_
  exact snd_nil
theorem k_X4_sumRates_0 (ca : Nat → ClassId) : k_X4_sumRates ca 0 = i_push (.int 0) 1 := rfl
theorem k_X4_sumRates_1 (ca : Nat → ClassId) : k_X4_sumRates ca 1 = i_istore 1 2 := rfl
theorem k_X4_sumRates_2 (ca : Nat → ClassId) : k_X4_sumRates ca 2 = i_iload 1 3 := rfl
theorem k_X4_sumRates_3 (ca : Nat → ClassId) : k_X4_sumRates ca 3 = i_push (.int 3) 4 := rfl
theorem k_X4_sumRates_4 (ca : Nat → ClassId) : k_X4_sumRates ca 4 = i_icmp (fun x y => y ≤ x) 32 7 := rfl
theorem k_X4_sumRates_7 (ca : Nat → ClassId) : k_X4_sumRates ca 7 = i_aload 0 8 := rfl
theorem k_X4_sumRates_8 (ca : Nat → ClassId) : k_X4_sumRates ca 8 = i_getf 4 6 11 := rfl
theorem k_X4_sumRates_11 (ca : Nat → ClassId) : k_X4_sumRates ca 11 = i_iload 1 12 := rfl
theorem k_X4_sumRates_12 (ca : Nat → ClassId) : k_X4_sumRates ca 12 = i_aload 0 13 := rfl
theorem k_X4_sumRates_13 (ca : Nat → ClassId) : k_X4_sumRates ca 13 = i_getf 4 2 16 := rfl
theorem k_X4_sumRates_16 (ca : Nat → ClassId) : k_X4_sumRates ca 16 = i_iload 1 17 := rfl
theorem k_X4_sumRates_17 (ca : Nat → ClassId) : k_X4_sumRates ca 17 = i_aald (ca 6) 18 := rfl
theorem k_X4_sumRates_18 (ca : Nat → ClassId) : k_X4_sumRates ca 18 = i_aload 0 19 := rfl
theorem k_X4_sumRates_19 (ca : Nat → ClassId) : k_X4_sumRates ca 19 = i_getf 4 0 22 := rfl
theorem k_X4_sumRates_22 (ca : Nat → ClassId) : k_X4_sumRates ca 22 = i_callV 5 1 0 0 0 0 (sp_X5_rate ca) 25 := rfl
theorem k_X4_sumRates_25 (ca : Nat → ClassId) : k_X4_sumRates ca 25 = i_ast (fun x => x) (ca 0) 26 := rfl
theorem k_X4_sumRates_26 (ca : Nat → ClassId) : k_X4_sumRates ca 26 = i_iinc 1 1 29 := rfl
theorem k_X4_sumRates_29 (ca : Nat → ClassId) : k_X4_sumRates ca 29 = i_goto 2 := rfl
theorem k_X4_sumRates_32 (ca : Nat → ClassId) : k_X4_sumRates ca 32 = i_vret := rfl
set_option maxHeartbeats 4000000 in
set_option maxRecDepth 20000 in
theorem ok_X4_sumRates (l : Launch) (D : va_G) (ca : Nat → ClassId) : OkAll l D ca yX4_sumRates cX4_sumRates 2 none 2 0 0 (sp_X4_sumRates ca) := by
  intro av h post hs
  obtain ⟨b, s, rfl, hb, hS, ⟨w1, w2, w3⟩, hs⟩ := hs
  obtain ⟨x0, ⟨xf1, xa1, xx1⟩, ⟨xf2, xa2, xx2⟩, ⟨xf3, xa3, xx3⟩, ⟨xf4, xa4, xx4⟩, ⟨xf5, xa5⟩, ⟨xf6, xa6⟩, ⟨xt7, ⟨xf8, xa8, xx8⟩, ⟨xf9, xa9, xx9⟩, ⟨xf10, xa10, xx10⟩⟩, xr11, ⟨xt12, ⟨xf13, xa13, xx13⟩, ⟨xf14, xa14, xx14⟩, ⟨xf15, xa15, xx15⟩⟩, xr16, ⟨xt17, ⟨xf18, xa18, xx18⟩, ⟨xf19, xa19, xx19⟩, ⟨xf20, xa20, xx20⟩⟩, xr21⟩ := id hS
  have xq30 : xf3 0 = some (b 7) := xx3 0 (by decide)
  have xq40 : xf4 0 = some (b 11) := xx4 0 (by decide)
  have xq31 : xf3 1 = some (b 12) := xx3 1 (by decide)
  have xq41 : xf4 1 = some (b 16) := xx4 1 (by decide)
  have xq32 : xf3 2 = some (b 17) := xx3 2 (by decide)
  have xq42 : xf4 2 = some (b 21) := xx4 2 (by decide)
  have hbe : ∀ i j, (b i = b j) = (i = j) := fun i j => propext (hb i j)
  obtain ⟨g1, g2⟩ := rate_of w1 xx8 xx9 xx10 xx1
  obtain ⟨g3, g4⟩ := rate_of w2 xx13 xx14 xx15 xx1
  obtain ⟨g5, g6⟩ := rate_of w3 xx18 xx19 xx20 xx1
  refine okM_of t_X4_sumRates (by decide +kernel) (c1_ref c1_nil) (Nat.le_of_ble_eq_true rfl) ?_
  intro K go
  refine go (stp []) 200 _ _ _ _ _ _ ?_
  simp only [wpS, ite_not, i_push, i_iload, i_lload, i_aload, i_istore, i_astore, i_lstore, i_iinc, i_bin, i_dv, i_un, i_lbin, i_lsh, i_i2l, i_l2i, i_lcmp, i_dup, i_dup2, i_pop, i_if, i_icmp, i_goto, swG, i_sw, i_getf, i_puti, i_putz, i_putr, i_ald, i_lald, i_aald, i_ast, i_last, i_aast, i_alen, i_new, i_newi, i_newl, i_newq, i_oinit, i_ret, i_zret, i_lret, i_vret, catS, tk, rpush, isO, i_m1, i_m2, i_acopy, i_callV, i_callS, KRet, lget, lput, lputL, lcl0, isL, lv0, List.map_cons, List.map_nil, List.length_cons, List.length_nil, List.cons_append, List.nil_append, Nat.reduceAdd, Nat.reduceSub, Nat.reduceLeDiff, List.replicate_succ, List.replicate_zero, List.getElem?_cons_succ, List.getElem?_cons_zero, List.set_cons_succ, List.set_cons_zero, true_and, and_true, if_true, if_false, reduceIte, Nat.le_refl, Value.category, va_up_app, eq_self, stp, Nat.reduceBEq, Bool.or_false, Bool.false_or, Bool.true_or, Bool.or_true, or_true, true_or, bx_uu, implies_true, true_implies, not_true, not_false_eq_true, false_implies, and_self, Nat.reduceLT, Int32.reduceAdd, Int32.reduceSub, Int32.reduceMul, Int32.reduceLE, Int32.reduceLT, Int32.reduceToNatClampNeg, va_rf_some, Bool.false_eq_true, k_X4_sumRates_0 ca, k_X4_sumRates_1 ca, k_X4_sumRates_2 ca, k_X4_sumRates_3 ca, k_X4_sumRates_4 ca, k_X4_sumRates_7 ca, k_X4_sumRates_8 ca, k_X4_sumRates_11 ca, k_X4_sumRates_12 ca, k_X4_sumRates_13 ca, k_X4_sumRates_16 ca, k_X4_sumRates_17 ca, k_X4_sumRates_18 ca, k_X4_sumRates_19 ca, k_X4_sumRates_22 ca, k_X4_sumRates_25 ca, k_X4_sumRates_26 ca, k_X4_sumRates_29 ca, k_X4_sumRates_32 ca, eState, eStrip, eRoom, x0, xa1, xa2, xa3, xa4, xa5, xa6, xa8, xa9, xa10, xa13, xa14, xa15, xa18, xa19, xa20, xt7, xt12, xt17, xr11, xr16, xr21, xq30, xq31, xq32, xq40, xq41, xq42, v03, v13, v23, sp_X5_rate, w1.1, w1.2.1, g2, w2.1, w2.2.1, g4, w3.1, w3.2.1, g6, hbe, Nat.reduceEqDiff]
  refine ⟨g1, g3, g5, hs _ (SAt_scr5 hb hS _) ⟨_, va_up_self _ _ _, u012 rfl rfl rfl⟩ (fun x hx => va_up_ne _ _ hx)⟩

