/-! SnapStacks' constructor -/
theorem sub_step {h H G : PH} {Q c : Nat → Nat} {n m q : Nat} {e0 eo : va_E} (B : Bk h H Q n) (hn : 0 < n) (hq : H q = none) (C : Bk (va_up H q (some e0)) G c m) (hm : 0 < m) (hc : c 0 = q) : Bk h (va_up G (Q 0) (some eo)) (Qa Q n c) (n + m) ∧ KA (Q 0) H (va_up G (Q 0) (some eo)) ∧ (∀ i, i < m → ¬ c i = Q 0) ∧ (∀ i, i < m → va_up G (Q 0) (some eo) (c i) = G (c i)) ∧ (∀ i, i < m → ∃ e, va_up G (Q 0) (some eo) (c i) = some e) := by
  have B1 := B.app hn hq C hm hc
  have B2 := B1.up (i := 0) (by omega) eo
  rw [Qa_lt hn] at B2
  have hne : ∀ i, i < m → ¬ c i = Q 0 := fun i hi z => by
    have := B1.1 (n + i) 0 (by omega) (by omega) (by rw [Qa_ge (by omega), Nat.add_sub_cancel_left, z, Qa_lt hn])
    omega
  exact ⟨B2, fun x e hx hh => (va_up_ne _ _ hx).trans (Bk.keep hq C hc hh), hne, fun i hi => va_up_ne _ _ (hne i hi), fun i hi => by rw [va_up_ne _ _ (hne i hi)]; exact C.2.2.1 i hi⟩
def CT0 (ca : Nat → ClassId) (H : PH) (Q : Nat → Nat) : Prop :=
  H (Q 0) = some (.inr (7, [.ref (Q 1), .ref (Q 23), .ref (Q 113), .ref (Q 115), .ref (Q 141), .int 0])) ∧ SAt ca H (fun j => Q (1 + j)) s0 ∧ H (Q 23) = some (.inr (0, [.ref (Q 24), .int 0, .int 0])) ∧ (∃ f, H (Q 24) = some (.inl (ca 5, 4, .inr (.inr (.inr (.inr f))))) ∧ ∀ i, i < 4 → f i = some (Q (25 + 22 * i))) ∧ (∀ i, i < 4 → SAt ca H (fun j => Q (25 + 22 * i + j)) s0) ∧
  H (Q 113) = some (.inr (6, [.ref (Q 114), .int 0])) ∧ H (Q 114) = some (.inl (ca 3, 60, .inl zF)) ∧
  H (Q 115) = some (.inr (1, [.ref (Q 116), .ref (Q 138), .ref (Q 139), .ref (Q 140), .int 0, .int 0, .int 0, .int 0])) ∧ SAt ca H (fun j => Q (116 + j)) s0 ∧ H (Q 138) = some (.inl (ca 1, 1501, .inr (.inl (fun _ => 0)))) ∧ H (Q 139) = some (.inl (ca 0, 1501, .inl (fun _ => 0))) ∧ H (Q 140) = some (.inl (ca 0, 4096, .inl (fun _ => 0))) ∧
  H (Q 141) = some (.inr (3, [.ref (Q 142), .int 0, .ref (Q 143), .int 0, .ref (Q 144), .ref (Q 145)])) ∧ H (Q 142) = some (.inl (ca 0, 6, .inl zF)) ∧ H (Q 143) = some (.inl (ca 0, 36, .inl zF)) ∧ H (Q 144) = some (.inl (ca 0, 271, .inl zF)) ∧ H (Q 145) = some (.inl (ca 0, 541, .inl zF))
def sp_X7_init (ca : Nat → ClassId) : SPEC := fun av h post => ∃ a, av = [.ref a] ∧ h a = some (.inr (7, [.null, .null, .null, .null, .null, .int 0])) ∧ ∀ H Q, Q 0 = a → Bk h H Q 146 → CT0 ca H Q → post none H
def k_X7_init (ca : Nat → ClassId) : Nat → IT := fun pc => lk pc [(0, i_aload 0 1),
  (1, i_oinit 4),
  (4, i_aload 0 5),
  (5, i_new 145 8959 4 8 [.null, .null, .null, .null, .int 0, .int 0, .null, .null] 8),
  (8, i_dup 9),
  (9, i_callV 4 0 21 146 145 8959 (sp_X4_init ca) 12),
  (12, i_putr 7 0 15),
  (15, i_aload 0 16),
  (16, i_new 145 8959 0 3 [.null, .int 0, .int 0] 19),
  (19, i_dup 20),
  (20, i_callV 0 0 89 620 145 8959 (sp_X0_init ca) 23),
  (23, i_putr 7 1 26),
  (26, i_aload 0 27),
  (27, i_new 145 8959 6 2 [.null, .int 0] 30),
  (30, i_dup 31),
  (31, i_callV 6 0 1 60 145 8959 (sp_X6_init ca) 34),
  (34, i_putr 7 2 37),
  (37, i_aload 0 38),
  (38, i_new 145 8959 1 8 [.null, .null, .null, .null, .int 0, .int 0, .int 0, .int 0] 41),
  (41, i_dup 42),
  (42, i_callV 1 0 25 7252 145 8959 (sp_X1_init ca) 45),
  (45, i_putr 7 3 48),
  (48, i_aload 0 49),
  (49, i_new 145 8959 3 6 [.null, .int 0, .null, .int 0, .null, .null] 52),
  (52, i_dup 53),
  (53, i_callV 3 0 4 854 145 8959 (sp_X3_init ca) 56),
  (56, i_putr 7 4 59),
  (59, i_aload 0 60),
  (60, i_push (.int 0) 61),
  (61, i_putz 7 5 64),
  (64, i_vret)]
set_option maxRecDepth 20000 in
theorem t_X7_init : Tb k_X7_init yX7_init cX7_init 1 none 4 145 8959 := by
  intro l D ca A p e s m args below meth c post X
  unfold k_X7_init
  refine snd_cons (snd_aload_n X dX7_init_0 rfl) ?_
  refine snd_cons (snd_oinit X w_17 w_18 w_19 (by decide) (by decide) dX7_init_1) ?_
  refine snd_cons (snd_aload_n X dX7_init_4 rfl) ?_
  refine snd_cons (snd_new X Fk4 rfl rfl w_20 w_21 w_2 (by decide) dX7_init_5) ?_
  refine snd_cons (snd_dup X dX7_init_8) ?_
  refine snd_cons (snd_callI X (ci := 4) (ok_X4_init l D ca) rfl rfl w_22 w_23 w_2 w_24 rfl (by decide) (by decide) dX7_init_9) ?_
  refine snd_cons (snd_putr X Fk7 0 (by decide) rfl rfl (fun _ => ⟨rfl, rfl⟩) w_250 dX7_init_12) ?_
  refine snd_cons (snd_aload_n X dX7_init_15 rfl) ?_
  refine snd_cons (snd_new X Fk0 rfl rfl w_154 w_155 w_5 (by decide) dX7_init_16) ?_
  refine snd_cons (snd_dup X dX7_init_19) ?_
  refine snd_cons (snd_callI X (ci := 0) (ok_X0_init l D ca) rfl rfl w_156 w_157 w_5 w_158 rfl (by decide) (by decide) dX7_init_20) ?_
  refine snd_cons (snd_putr X Fk7 1 (by decide) rfl rfl (fun _ => ⟨rfl, rfl⟩) w_251 dX7_init_23) ?_
  refine snd_cons (snd_aload_n X dX7_init_26 rfl) ?_
  refine snd_cons (snd_new X Fk6 rfl rfl w_174 w_175 w_6 (by decide) dX7_init_27) ?_
  refine snd_cons (snd_dup X dX7_init_30) ?_
  refine snd_cons (snd_callI X (ci := 6) (ok_X6_init l D ca) rfl rfl w_176 w_177 w_6 w_178 rfl (by decide) (by decide) dX7_init_31) ?_
  refine snd_cons (snd_putr X Fk7 2 (by decide) rfl rfl (fun _ => ⟨rfl, rfl⟩) w_252 dX7_init_34) ?_
  refine snd_cons (snd_aload_n X dX7_init_37 rfl) ?_
  refine snd_cons (snd_new X Fk1 rfl rfl w_189 w_190 w_7 (by decide) dX7_init_38) ?_
  refine snd_cons (snd_dup X dX7_init_41) ?_
  refine snd_cons (snd_callI X (ci := 1) (ok_X1_init l D ca) rfl rfl w_191 w_192 w_7 w_193 rfl (by decide) (by decide) dX7_init_42) ?_
  refine snd_cons (snd_putr X Fk7 3 (by decide) rfl rfl (fun _ => ⟨rfl, rfl⟩) w_253 dX7_init_45) ?_
  refine snd_cons (snd_aload_n X dX7_init_48 rfl) ?_
  refine snd_cons (snd_new X Fk3 rfl rfl w_227 w_228 w_8 (by decide) dX7_init_49) ?_
  refine snd_cons (snd_dup X dX7_init_52) ?_
  refine snd_cons (snd_callI X (ci := 3) (ok_X3_init l D ca) rfl rfl w_229 w_230 w_8 w_231 rfl (by decide) (by decide) dX7_init_53) ?_
  refine snd_cons (snd_putr X Fk7 4 (by decide) rfl rfl (fun _ => ⟨rfl, rfl⟩) w_254 dX7_init_56) ?_
  refine snd_cons (snd_aload_n X dX7_init_59 rfl) ?_
  refine snd_cons (snd_iconst X dX7_init_60 (by decide)) ?_
  refine snd_cons (snd_putz X Fk7 5 (by decide) rfl rfl w_255 dX7_init_61) ?_
  refine snd_cons (snd_vret X dX7_init_64) ?_
  exact snd_nil
theorem k_X7_init_0 (ca : Nat → ClassId) : k_X7_init ca 0 = i_aload 0 1 := rfl
theorem k_X7_init_1 (ca : Nat → ClassId) : k_X7_init ca 1 = i_oinit 4 := rfl
theorem k_X7_init_4 (ca : Nat → ClassId) : k_X7_init ca 4 = i_aload 0 5 := rfl
theorem k_X7_init_5 (ca : Nat → ClassId) : k_X7_init ca 5 = i_new 145 8959 4 8 [.null, .null, .null, .null, .int 0, .int 0, .null, .null] 8 := rfl
theorem k_X7_init_8 (ca : Nat → ClassId) : k_X7_init ca 8 = i_dup 9 := rfl
theorem k_X7_init_9 (ca : Nat → ClassId) : k_X7_init ca 9 = i_callV 4 0 21 146 145 8959 (sp_X4_init ca) 12 := rfl
theorem k_X7_init_12 (ca : Nat → ClassId) : k_X7_init ca 12 = i_putr 7 0 15 := rfl
theorem k_X7_init_15 (ca : Nat → ClassId) : k_X7_init ca 15 = i_aload 0 16 := rfl
theorem k_X7_init_16 (ca : Nat → ClassId) : k_X7_init ca 16 = i_new 145 8959 0 3 [.null, .int 0, .int 0] 19 := rfl
theorem k_X7_init_19 (ca : Nat → ClassId) : k_X7_init ca 19 = i_dup 20 := rfl
theorem k_X7_init_20 (ca : Nat → ClassId) : k_X7_init ca 20 = i_callV 0 0 89 620 145 8959 (sp_X0_init ca) 23 := rfl
theorem k_X7_init_23 (ca : Nat → ClassId) : k_X7_init ca 23 = i_putr 7 1 26 := rfl
theorem k_X7_init_26 (ca : Nat → ClassId) : k_X7_init ca 26 = i_aload 0 27 := rfl
theorem k_X7_init_27 (ca : Nat → ClassId) : k_X7_init ca 27 = i_new 145 8959 6 2 [.null, .int 0] 30 := rfl
theorem k_X7_init_30 (ca : Nat → ClassId) : k_X7_init ca 30 = i_dup 31 := rfl
theorem k_X7_init_31 (ca : Nat → ClassId) : k_X7_init ca 31 = i_callV 6 0 1 60 145 8959 (sp_X6_init ca) 34 := rfl
theorem k_X7_init_34 (ca : Nat → ClassId) : k_X7_init ca 34 = i_putr 7 2 37 := rfl
theorem k_X7_init_37 (ca : Nat → ClassId) : k_X7_init ca 37 = i_aload 0 38 := rfl
theorem k_X7_init_38 (ca : Nat → ClassId) : k_X7_init ca 38 = i_new 145 8959 1 8 [.null, .null, .null, .null, .int 0, .int 0, .int 0, .int 0] 41 := rfl
theorem k_X7_init_41 (ca : Nat → ClassId) : k_X7_init ca 41 = i_dup 42 := rfl
theorem k_X7_init_42 (ca : Nat → ClassId) : k_X7_init ca 42 = i_callV 1 0 25 7252 145 8959 (sp_X1_init ca) 45 := rfl
theorem k_X7_init_45 (ca : Nat → ClassId) : k_X7_init ca 45 = i_putr 7 3 48 := rfl
theorem k_X7_init_48 (ca : Nat → ClassId) : k_X7_init ca 48 = i_aload 0 49 := rfl
theorem k_X7_init_49 (ca : Nat → ClassId) : k_X7_init ca 49 = i_new 145 8959 3 6 [.null, .int 0, .null, .int 0, .null, .null] 52 := rfl
theorem k_X7_init_52 (ca : Nat → ClassId) : k_X7_init ca 52 = i_dup 53 := rfl
theorem k_X7_init_53 (ca : Nat → ClassId) : k_X7_init ca 53 = i_callV 3 0 4 854 145 8959 (sp_X3_init ca) 56 := rfl
theorem k_X7_init_56 (ca : Nat → ClassId) : k_X7_init ca 56 = i_putr 7 4 59 := rfl
theorem k_X7_init_59 (ca : Nat → ClassId) : k_X7_init ca 59 = i_aload 0 60 := rfl
theorem k_X7_init_60 (ca : Nat → ClassId) : k_X7_init ca 60 = i_push (.int 0) 61 := rfl
theorem k_X7_init_61 (ca : Nat → ClassId) : k_X7_init ca 61 = i_putz 7 5 64 := rfl
theorem k_X7_init_64 (ca : Nat → ClassId) : k_X7_init ca 64 = i_vret := rfl
set_option maxHeartbeats 4000000 in
set_option maxRecDepth 20000 in
theorem ok_X7_init (l : Launch) (D : va_G) (ca : Nat → ClassId) : OkAll l D ca yX7_init cX7_init 1 none 4 145 8959 (sp_X7_init ca) := by
  intro av h post hs
  obtain ⟨a, rfl, ha, hs⟩ := hs
  refine okM_of t_X7_init (by decide +kernel) (c1_ref c1_nil) (Nat.le_of_ble_eq_true rfl) ?_
  intro K go
  refine goN go (stp [8]) 160 _ _ _ _ _ _ (fun F hF hF0 => ?_)
  simp only [hF, hF0, ite_not, i_push, i_iload, i_lload, i_aload, i_istore, i_astore, i_lstore, i_iinc, i_bin, i_dv, i_un, i_lbin, i_lsh, i_i2l, i_l2i, i_lcmp, i_dup, i_dup2, i_pop, i_if, i_icmp, i_goto, swG, i_sw, i_getf, i_puti, i_putz, i_putr, i_ald, i_lald, i_aald, i_ast, i_last, i_aast, i_alen, i_new, i_newi, i_newl, i_newq, i_oinit, i_ret, i_zret, i_lret, i_vret, catS, tk, rpush, isO, i_m1, i_m2, i_acopy, i_callV, i_callS, KRet, lget, lput, lputL, lcl0, isL, lv0, List.map_cons, List.map_nil, List.length_cons, List.length_nil, List.cons_append, List.nil_append, Nat.reduceAdd, Nat.reduceSub, Nat.reduceLeDiff, List.replicate_succ, List.replicate_zero, List.getElem?_cons_succ, List.getElem?_cons_zero, List.set_cons_succ, List.set_cons_zero, true_and, and_true, if_true, if_false, ↓reduceIte, Nat.le_refl, Value.category, va_up_app, eq_self, stp, Nat.reduceBEq, Bool.or_false, Bool.false_or, Bool.true_or, Bool.or_true, or_true, true_or, bx_uu, implies_true, true_implies, not_true, not_false_eq_true, false_implies, and_self, Nat.reduceLT, Int32.reduceAdd, Int32.reduceSub, Int32.reduceMul, Int32.reduceLE, Int32.reduceLT, Int32.reduceToNatClampNeg, va_rf_some, Bool.false_eq_true, k_X7_init_0 ca, k_X7_init_1 ca, k_X7_init_4 ca, k_X7_init_5 ca, k_X7_init_8 ca, k_X7_init_9 ca, k_X7_init_12 ca, k_X7_init_15 ca, k_X7_init_16 ca, k_X7_init_19 ca, k_X7_init_20 ca, k_X7_init_23 ca, k_X7_init_26 ca, k_X7_init_27 ca, k_X7_init_30 ca, k_X7_init_31 ca, k_X7_init_34 ca, k_X7_init_37 ca, k_X7_init_38 ca, k_X7_init_41 ca, k_X7_init_42 ca, k_X7_init_45 ca, k_X7_init_48 ca, k_X7_init_49 ca, k_X7_init_52 ca, k_X7_init_53 ca, k_X7_init_56 ca, k_X7_init_59 ca, k_X7_init_60 ca, k_X7_init_61 ca, k_X7_init_64 ca, ha]
  try clear hF hF0 F
  intro q1 hq1
  refine goN go (stp [12]) 160 _ _ _ _ _ _ (fun F hF hF0 => ?_)
  simp only [hF, hF0, ite_not, i_push, i_iload, i_lload, i_aload, i_istore, i_astore, i_lstore, i_iinc, i_bin, i_dv, i_un, i_lbin, i_lsh, i_i2l, i_l2i, i_lcmp, i_dup, i_dup2, i_pop, i_if, i_icmp, i_goto, swG, i_sw, i_getf, i_puti, i_putz, i_putr, i_ald, i_lald, i_aald, i_ast, i_last, i_aast, i_alen, i_new, i_newi, i_newl, i_newq, i_oinit, i_ret, i_zret, i_lret, i_vret, catS, tk, rpush, isO, i_m1, i_m2, i_acopy, i_callV, i_callS, KRet, lget, lput, lputL, lcl0, isL, lv0, List.map_cons, List.map_nil, List.length_cons, List.length_nil, List.cons_append, List.nil_append, Nat.reduceAdd, Nat.reduceSub, Nat.reduceLeDiff, List.replicate_succ, List.replicate_zero, List.getElem?_cons_succ, List.getElem?_cons_zero, List.set_cons_succ, List.set_cons_zero, true_and, and_true, if_true, if_false, ↓reduceIte, Nat.le_refl, Value.category, va_up_app, eq_self, stp, Nat.reduceBEq, Bool.or_false, Bool.false_or, Bool.true_or, Bool.or_true, or_true, true_or, bx_uu, implies_true, true_implies, not_true, not_false_eq_true, false_implies, and_self, Nat.reduceLT, Int32.reduceAdd, Int32.reduceSub, Int32.reduceMul, Int32.reduceLE, Int32.reduceLT, Int32.reduceToNatClampNeg, va_rf_some, Bool.false_eq_true, k_X7_init_0 ca, k_X7_init_1 ca, k_X7_init_4 ca, k_X7_init_5 ca, k_X7_init_8 ca, k_X7_init_9 ca, k_X7_init_12 ca, k_X7_init_15 ca, k_X7_init_16 ca, k_X7_init_19 ca, k_X7_init_20 ca, k_X7_init_23 ca, k_X7_init_26 ca, k_X7_init_27 ca, k_X7_init_30 ca, k_X7_init_31 ca, k_X7_init_34 ca, k_X7_init_37 ca, k_X7_init_38 ca, k_X7_init_41 ca, k_X7_init_42 ca, k_X7_init_45 ca, k_X7_init_48 ca, k_X7_init_49 ca, k_X7_init_52 ca, k_X7_init_53 ca, k_X7_init_56 ca, k_X7_init_59 ca, k_X7_init_60 ca, k_X7_init_61 ca, k_X7_init_64 ca]
  try clear hF hF0 F
  refine ⟨q1, rfl, va_up_self _ _ _, fun G1 c1 hc1 C1 g1 => ?_⟩
  have k1 := Bk.keep hq1 C1 hc1 ha
  obtain ⟨B1, A1, N1, E1, X1⟩ := sub_step (eo := .inr (7, [.ref q1, .null, .null, .null, .null, .int 0])) (Bk.one ha) (by decide) hq1 C1 (by decide) hc1
  have S1 : SAt ca (va_up G1 a (some (.inr (7, [.ref q1, .null, .null, .null, .null, .int 0])))) c1 s0 := SAt_kept g1 (fun i hi => E1 i hi)
  refine goN go (stp [19]) 160 _ _ _ _ _ _ (fun F hF hF0 => ?_)
  simp only [hF, hF0, ite_not, i_push, i_iload, i_lload, i_aload, i_istore, i_astore, i_lstore, i_iinc, i_bin, i_dv, i_un, i_lbin, i_lsh, i_i2l, i_l2i, i_lcmp, i_dup, i_dup2, i_pop, i_if, i_icmp, i_goto, swG, i_sw, i_getf, i_puti, i_putz, i_putr, i_ald, i_lald, i_aald, i_ast, i_last, i_aast, i_alen, i_new, i_newi, i_newl, i_newq, i_oinit, i_ret, i_zret, i_lret, i_vret, catS, tk, rpush, isO, i_m1, i_m2, i_acopy, i_callV, i_callS, KRet, lget, lput, lputL, lcl0, isL, lv0, List.map_cons, List.map_nil, List.length_cons, List.length_nil, List.cons_append, List.nil_append, Nat.reduceAdd, Nat.reduceSub, Nat.reduceLeDiff, List.replicate_succ, List.replicate_zero, List.getElem?_cons_succ, List.getElem?_cons_zero, List.set_cons_succ, List.set_cons_zero, true_and, and_true, if_true, if_false, ↓reduceIte, Nat.le_refl, Value.category, va_up_app, eq_self, stp, Nat.reduceBEq, Bool.or_false, Bool.false_or, Bool.true_or, Bool.or_true, or_true, true_or, bx_uu, implies_true, true_implies, not_true, not_false_eq_true, false_implies, and_self, Nat.reduceLT, Int32.reduceAdd, Int32.reduceSub, Int32.reduceMul, Int32.reduceLE, Int32.reduceLT, Int32.reduceToNatClampNeg, va_rf_some, Bool.false_eq_true, k_X7_init_0 ca, k_X7_init_1 ca, k_X7_init_4 ca, k_X7_init_5 ca, k_X7_init_8 ca, k_X7_init_9 ca, k_X7_init_12 ca, k_X7_init_15 ca, k_X7_init_16 ca, k_X7_init_19 ca, k_X7_init_20 ca, k_X7_init_23 ca, k_X7_init_26 ca, k_X7_init_27 ca, k_X7_init_30 ca, k_X7_init_31 ca, k_X7_init_34 ca, k_X7_init_37 ca, k_X7_init_38 ca, k_X7_init_41 ca, k_X7_init_42 ca, k_X7_init_45 ca, k_X7_init_48 ca, k_X7_init_49 ca, k_X7_init_52 ca, k_X7_init_53 ca, k_X7_init_56 ca, k_X7_init_59 ca, k_X7_init_60 ca, k_X7_init_61 ca, k_X7_init_64 ca, k1]
  try clear hF hF0 F
  intro q2 hq2
  have hq2 : va_up G1 a (some (.inr (7, [.ref q1, .null, .null, .null, .null, .int 0]))) q2 = none := hq2
  have a1 : va_up G1 a (some (.inr (7, [.ref q1, .null, .null, .null, .null, .int 0]))) a = some (.inr (7, [.ref q1, .null, .null, .null, .null, .int 0])) := va_up_self _ _ _
  have B1 : Bk h (va_up G1 a (some (.inr (7, [.ref q1, .null, .null, .null, .null, .int 0])))) (Qa (fun _ => a) 1 c1) 23 := B1
  have X1 : ∀ i, i < 22 → ∃ e, va_up G1 a (some (.inr (7, [.ref q1, .null, .null, .null, .null, .int 0]))) (c1 i) = some e := X1
  clear A1 E1
  generalize va_up G1 a (some (.inr (7, [.ref q1, .null, .null, .null, .null, .int 0]))) = F1 at *
  refine goN go (stp [23]) 160 _ _ _ _ _ _ (fun F hF hF0 => ?_)
  simp only [hF, hF0, ite_not, i_push, i_iload, i_lload, i_aload, i_istore, i_astore, i_lstore, i_iinc, i_bin, i_dv, i_un, i_lbin, i_lsh, i_i2l, i_l2i, i_lcmp, i_dup, i_dup2, i_pop, i_if, i_icmp, i_goto, swG, i_sw, i_getf, i_puti, i_putz, i_putr, i_ald, i_lald, i_aald, i_ast, i_last, i_aast, i_alen, i_new, i_newi, i_newl, i_newq, i_oinit, i_ret, i_zret, i_lret, i_vret, catS, tk, rpush, isO, i_m1, i_m2, i_acopy, i_callV, i_callS, KRet, lget, lput, lputL, lcl0, isL, lv0, List.map_cons, List.map_nil, List.length_cons, List.length_nil, List.cons_append, List.nil_append, Nat.reduceAdd, Nat.reduceSub, Nat.reduceLeDiff, List.replicate_succ, List.replicate_zero, List.getElem?_cons_succ, List.getElem?_cons_zero, List.set_cons_succ, List.set_cons_zero, true_and, and_true, if_true, if_false, ↓reduceIte, Nat.le_refl, Value.category, va_up_app, eq_self, stp, Nat.reduceBEq, Bool.or_false, Bool.false_or, Bool.true_or, Bool.or_true, or_true, true_or, bx_uu, implies_true, true_implies, not_true, not_false_eq_true, false_implies, and_self, Nat.reduceLT, Int32.reduceAdd, Int32.reduceSub, Int32.reduceMul, Int32.reduceLE, Int32.reduceLT, Int32.reduceToNatClampNeg, va_rf_some, Bool.false_eq_true, k_X7_init_0 ca, k_X7_init_1 ca, k_X7_init_4 ca, k_X7_init_5 ca, k_X7_init_8 ca, k_X7_init_9 ca, k_X7_init_12 ca, k_X7_init_15 ca, k_X7_init_16 ca, k_X7_init_19 ca, k_X7_init_20 ca, k_X7_init_23 ca, k_X7_init_26 ca, k_X7_init_27 ca, k_X7_init_30 ca, k_X7_init_31 ca, k_X7_init_34 ca, k_X7_init_37 ca, k_X7_init_38 ca, k_X7_init_41 ca, k_X7_init_42 ca, k_X7_init_45 ca, k_X7_init_48 ca, k_X7_init_49 ca, k_X7_init_52 ca, k_X7_init_53 ca, k_X7_init_56 ca, k_X7_init_59 ca, k_X7_init_60 ca, k_X7_init_61 ca, k_X7_init_64 ca]
  try clear hF hF0 F
  refine ⟨q2, rfl, va_up_self _ _ _, fun G2 c2 hc2 ⟨C2, h20, ⟨hf, h21, h22⟩, h23⟩ => ?_⟩
  have k2 := Bk.keep hq2 C2 hc2 a1
  obtain ⟨B2, A2, N2, E2, X2⟩ := sub_step (eo := .inr (7, [.ref q1, .ref q2, .null, .null, .null, .int 0])) B1 (by decide) hq2 C2 (by decide) hc2
  have B2 : Bk h (va_up G2 a (some (.inr (7, [.ref q1, .ref q2, .null, .null, .null, .int 0])))) (Qa (Qa (fun _ => a) 1 c1) 23 c2) 113 := B2
  have A2 : KA a F1 (va_up G2 a (some (.inr (7, [.ref q1, .ref q2, .null, .null, .null, .int 0])))) := A2
  have E2 : ∀ i, i < 90 → va_up G2 a (some (.inr (7, [.ref q1, .ref q2, .null, .null, .null, .int 0]))) (c2 i) = G2 (c2 i) := E2
  have X2 : ∀ i, i < 90 → ∃ e, va_up G2 a (some (.inr (7, [.ref q1, .ref q2, .null, .null, .null, .int 0]))) (c2 i) = some e := X2
  have N2 : ∀ i, i < 90 → ¬ c2 i = a := N2
  refine goN go (stp [30]) 160 _ _ _ _ _ _ (fun F hF hF0 => ?_)
  simp only [hF, hF0, ite_not, i_push, i_iload, i_lload, i_aload, i_istore, i_astore, i_lstore, i_iinc, i_bin, i_dv, i_un, i_lbin, i_lsh, i_i2l, i_l2i, i_lcmp, i_dup, i_dup2, i_pop, i_if, i_icmp, i_goto, swG, i_sw, i_getf, i_puti, i_putz, i_putr, i_ald, i_lald, i_aald, i_ast, i_last, i_aast, i_alen, i_new, i_newi, i_newl, i_newq, i_oinit, i_ret, i_zret, i_lret, i_vret, catS, tk, rpush, isO, i_m1, i_m2, i_acopy, i_callV, i_callS, KRet, lget, lput, lputL, lcl0, isL, lv0, List.map_cons, List.map_nil, List.length_cons, List.length_nil, List.cons_append, List.nil_append, Nat.reduceAdd, Nat.reduceSub, Nat.reduceLeDiff, List.replicate_succ, List.replicate_zero, List.getElem?_cons_succ, List.getElem?_cons_zero, List.set_cons_succ, List.set_cons_zero, true_and, and_true, if_true, if_false, ↓reduceIte, Nat.le_refl, Value.category, va_up_app, eq_self, stp, Nat.reduceBEq, Bool.or_false, Bool.false_or, Bool.true_or, Bool.or_true, or_true, true_or, bx_uu, implies_true, true_implies, not_true, not_false_eq_true, false_implies, and_self, Nat.reduceLT, Int32.reduceAdd, Int32.reduceSub, Int32.reduceMul, Int32.reduceLE, Int32.reduceLT, Int32.reduceToNatClampNeg, va_rf_some, Bool.false_eq_true, k_X7_init_0 ca, k_X7_init_1 ca, k_X7_init_4 ca, k_X7_init_5 ca, k_X7_init_8 ca, k_X7_init_9 ca, k_X7_init_12 ca, k_X7_init_15 ca, k_X7_init_16 ca, k_X7_init_19 ca, k_X7_init_20 ca, k_X7_init_23 ca, k_X7_init_26 ca, k_X7_init_27 ca, k_X7_init_30 ca, k_X7_init_31 ca, k_X7_init_34 ca, k_X7_init_37 ca, k_X7_init_38 ca, k_X7_init_41 ca, k_X7_init_42 ca, k_X7_init_45 ca, k_X7_init_48 ca, k_X7_init_49 ca, k_X7_init_52 ca, k_X7_init_53 ca, k_X7_init_56 ca, k_X7_init_59 ca, k_X7_init_60 ca, k_X7_init_61 ca, k_X7_init_64 ca, k2]
  try clear hF hF0 F
  intro q3 hq3
  have hq3 : va_up G2 a (some (.inr (7, [.ref q1, .ref q2, .null, .null, .null, .int 0]))) q3 = none := hq3
  have a2 : va_up G2 a (some (.inr (7, [.ref q1, .ref q2, .null, .null, .null, .int 0]))) a = some (.inr (7, [.ref q1, .ref q2, .null, .null, .null, .int 0])) := va_up_self _ _ _
  generalize va_up G2 a (some (.inr (7, [.ref q1, .ref q2, .null, .null, .null, .int 0]))) = F2 at *
  have h20 := (E2 0 (by decide)).trans h20
  have h21 := (E2 1 (by decide)).trans h21
  have h23 : ∀ i, i < 4 → SAt ca F2 (fun j => c2 (2 + 22 * i + j)) s0 := fun i hi => SAt_kept (h23 i hi) (fun j hj => E2 _ (by omega))
  clear E2
  refine goN go (stp [34]) 160 _ _ _ _ _ _ (fun F hF hF0 => ?_)
  simp only [hF, hF0, ite_not, i_push, i_iload, i_lload, i_aload, i_istore, i_astore, i_lstore, i_iinc, i_bin, i_dv, i_un, i_lbin, i_lsh, i_i2l, i_l2i, i_lcmp, i_dup, i_dup2, i_pop, i_if, i_icmp, i_goto, swG, i_sw, i_getf, i_puti, i_putz, i_putr, i_ald, i_lald, i_aald, i_ast, i_last, i_aast, i_alen, i_new, i_newi, i_newl, i_newq, i_oinit, i_ret, i_zret, i_lret, i_vret, catS, tk, rpush, isO, i_m1, i_m2, i_acopy, i_callV, i_callS, KRet, lget, lput, lputL, lcl0, isL, lv0, List.map_cons, List.map_nil, List.length_cons, List.length_nil, List.cons_append, List.nil_append, Nat.reduceAdd, Nat.reduceSub, Nat.reduceLeDiff, List.replicate_succ, List.replicate_zero, List.getElem?_cons_succ, List.getElem?_cons_zero, List.set_cons_succ, List.set_cons_zero, true_and, and_true, if_true, if_false, ↓reduceIte, Nat.le_refl, Value.category, va_up_app, eq_self, stp, Nat.reduceBEq, Bool.or_false, Bool.false_or, Bool.true_or, Bool.or_true, or_true, true_or, bx_uu, implies_true, true_implies, not_true, not_false_eq_true, false_implies, and_self, Nat.reduceLT, Int32.reduceAdd, Int32.reduceSub, Int32.reduceMul, Int32.reduceLE, Int32.reduceLT, Int32.reduceToNatClampNeg, va_rf_some, Bool.false_eq_true, k_X7_init_0 ca, k_X7_init_1 ca, k_X7_init_4 ca, k_X7_init_5 ca, k_X7_init_8 ca, k_X7_init_9 ca, k_X7_init_12 ca, k_X7_init_15 ca, k_X7_init_16 ca, k_X7_init_19 ca, k_X7_init_20 ca, k_X7_init_23 ca, k_X7_init_26 ca, k_X7_init_27 ca, k_X7_init_30 ca, k_X7_init_31 ca, k_X7_init_34 ca, k_X7_init_37 ca, k_X7_init_38 ca, k_X7_init_41 ca, k_X7_init_42 ca, k_X7_init_45 ca, k_X7_init_48 ca, k_X7_init_49 ca, k_X7_init_52 ca, k_X7_init_53 ca, k_X7_init_56 ca, k_X7_init_59 ca, k_X7_init_60 ca, k_X7_init_61 ca, k_X7_init_64 ca]
  try clear hF hF0 F
  refine ⟨q3, rfl, va_up_self _ _ _, fun G3 c3 hc3 C3 h30 h31 => ?_⟩
  have k3 := Bk.keep hq3 C3 hc3 a2
  obtain ⟨B3, A3, N3, E3, X3⟩ := sub_step (eo := .inr (7, [.ref q1, .ref q2, .ref q3, .null, .null, .int 0])) B2 (by decide) hq3 C3 (by decide) hc3
  have B3 : Bk h (va_up G3 a (some (.inr (7, [.ref q1, .ref q2, .ref q3, .null, .null, .int 0])))) (Qa (Qa (Qa (fun _ => a) 1 c1) 23 c2) 113 c3) 115 := B3
  have A3 : KA a F2 (va_up G3 a (some (.inr (7, [.ref q1, .ref q2, .ref q3, .null, .null, .int 0])))) := A3
  have E3 : ∀ i, i < 2 → va_up G3 a (some (.inr (7, [.ref q1, .ref q2, .ref q3, .null, .null, .int 0]))) (c3 i) = G3 (c3 i) := E3
  have N3 : ∀ i, i < 2 → ¬ c3 i = a := N3
  refine goN go (stp [41]) 160 _ _ _ _ _ _ (fun F hF hF0 => ?_)
  simp only [hF, hF0, ite_not, i_push, i_iload, i_lload, i_aload, i_istore, i_astore, i_lstore, i_iinc, i_bin, i_dv, i_un, i_lbin, i_lsh, i_i2l, i_l2i, i_lcmp, i_dup, i_dup2, i_pop, i_if, i_icmp, i_goto, swG, i_sw, i_getf, i_puti, i_putz, i_putr, i_ald, i_lald, i_aald, i_ast, i_last, i_aast, i_alen, i_new, i_newi, i_newl, i_newq, i_oinit, i_ret, i_zret, i_lret, i_vret, catS, tk, rpush, isO, i_m1, i_m2, i_acopy, i_callV, i_callS, KRet, lget, lput, lputL, lcl0, isL, lv0, List.map_cons, List.map_nil, List.length_cons, List.length_nil, List.cons_append, List.nil_append, Nat.reduceAdd, Nat.reduceSub, Nat.reduceLeDiff, List.replicate_succ, List.replicate_zero, List.getElem?_cons_succ, List.getElem?_cons_zero, List.set_cons_succ, List.set_cons_zero, true_and, and_true, if_true, if_false, ↓reduceIte, Nat.le_refl, Value.category, va_up_app, eq_self, stp, Nat.reduceBEq, Bool.or_false, Bool.false_or, Bool.true_or, Bool.or_true, or_true, true_or, bx_uu, implies_true, true_implies, not_true, not_false_eq_true, false_implies, and_self, Nat.reduceLT, Int32.reduceAdd, Int32.reduceSub, Int32.reduceMul, Int32.reduceLE, Int32.reduceLT, Int32.reduceToNatClampNeg, va_rf_some, Bool.false_eq_true, k_X7_init_0 ca, k_X7_init_1 ca, k_X7_init_4 ca, k_X7_init_5 ca, k_X7_init_8 ca, k_X7_init_9 ca, k_X7_init_12 ca, k_X7_init_15 ca, k_X7_init_16 ca, k_X7_init_19 ca, k_X7_init_20 ca, k_X7_init_23 ca, k_X7_init_26 ca, k_X7_init_27 ca, k_X7_init_30 ca, k_X7_init_31 ca, k_X7_init_34 ca, k_X7_init_37 ca, k_X7_init_38 ca, k_X7_init_41 ca, k_X7_init_42 ca, k_X7_init_45 ca, k_X7_init_48 ca, k_X7_init_49 ca, k_X7_init_52 ca, k_X7_init_53 ca, k_X7_init_56 ca, k_X7_init_59 ca, k_X7_init_60 ca, k_X7_init_61 ca, k_X7_init_64 ca, k3]
  try clear hF hF0 F
  intro q4 hq4
  have hq4 : va_up G3 a (some (.inr (7, [.ref q1, .ref q2, .ref q3, .null, .null, .int 0]))) q4 = none := hq4
  have a3 : va_up G3 a (some (.inr (7, [.ref q1, .ref q2, .ref q3, .null, .null, .int 0]))) a = some (.inr (7, [.ref q1, .ref q2, .ref q3, .null, .null, .int 0])) := va_up_self _ _ _
  have h30 := (E3 0 (by decide)).trans h30
  have h31 := (E3 1 (by decide)).trans h31
  clear E3 X3
  generalize va_up G3 a (some (.inr (7, [.ref q1, .ref q2, .ref q3, .null, .null, .int 0]))) = F3 at *
  refine goN go (stp [45]) 160 _ _ _ _ _ _ (fun F hF hF0 => ?_)
  simp only [hF, hF0, ite_not, i_push, i_iload, i_lload, i_aload, i_istore, i_astore, i_lstore, i_iinc, i_bin, i_dv, i_un, i_lbin, i_lsh, i_i2l, i_l2i, i_lcmp, i_dup, i_dup2, i_pop, i_if, i_icmp, i_goto, swG, i_sw, i_getf, i_puti, i_putz, i_putr, i_ald, i_lald, i_aald, i_ast, i_last, i_aast, i_alen, i_new, i_newi, i_newl, i_newq, i_oinit, i_ret, i_zret, i_lret, i_vret, catS, tk, rpush, isO, i_m1, i_m2, i_acopy, i_callV, i_callS, KRet, lget, lput, lputL, lcl0, isL, lv0, List.map_cons, List.map_nil, List.length_cons, List.length_nil, List.cons_append, List.nil_append, Nat.reduceAdd, Nat.reduceSub, Nat.reduceLeDiff, List.replicate_succ, List.replicate_zero, List.getElem?_cons_succ, List.getElem?_cons_zero, List.set_cons_succ, List.set_cons_zero, true_and, and_true, if_true, if_false, ↓reduceIte, Nat.le_refl, Value.category, va_up_app, eq_self, stp, Nat.reduceBEq, Bool.or_false, Bool.false_or, Bool.true_or, Bool.or_true, or_true, true_or, bx_uu, implies_true, true_implies, not_true, not_false_eq_true, false_implies, and_self, Nat.reduceLT, Int32.reduceAdd, Int32.reduceSub, Int32.reduceMul, Int32.reduceLE, Int32.reduceLT, Int32.reduceToNatClampNeg, va_rf_some, Bool.false_eq_true, k_X7_init_0 ca, k_X7_init_1 ca, k_X7_init_4 ca, k_X7_init_5 ca, k_X7_init_8 ca, k_X7_init_9 ca, k_X7_init_12 ca, k_X7_init_15 ca, k_X7_init_16 ca, k_X7_init_19 ca, k_X7_init_20 ca, k_X7_init_23 ca, k_X7_init_26 ca, k_X7_init_27 ca, k_X7_init_30 ca, k_X7_init_31 ca, k_X7_init_34 ca, k_X7_init_37 ca, k_X7_init_38 ca, k_X7_init_41 ca, k_X7_init_42 ca, k_X7_init_45 ca, k_X7_init_48 ca, k_X7_init_49 ca, k_X7_init_52 ca, k_X7_init_53 ca, k_X7_init_56 ca, k_X7_init_59 ca, k_X7_init_60 ca, k_X7_init_61 ca, k_X7_init_64 ca]
  try clear hF hF0 F
  refine ⟨q4, rfl, va_up_self _ _ _, fun G4 c4 hc4 ⟨C4, h40, h41, h42, h43, h44⟩ => ?_⟩
  have k4 := Bk.keep hq4 C4 hc4 a3
  obtain ⟨B4, A4, N4, E4, X4⟩ := sub_step (eo := .inr (7, [.ref q1, .ref q2, .ref q3, .ref q4, .null, .int 0])) B3 (by decide) hq4 C4 (by decide) hc4
  have B4 : Bk h (va_up G4 a (some (.inr (7, [.ref q1, .ref q2, .ref q3, .ref q4, .null, .int 0])))) (Qa (Qa (Qa (Qa (fun _ => a) 1 c1) 23 c2) 113 c3) 115 c4) 141 := B4
  have A4 : KA a F3 (va_up G4 a (some (.inr (7, [.ref q1, .ref q2, .ref q3, .ref q4, .null, .int 0])))) := A4
  have E4 : ∀ i, i < 26 → va_up G4 a (some (.inr (7, [.ref q1, .ref q2, .ref q3, .ref q4, .null, .int 0]))) (c4 i) = G4 (c4 i) := E4
  have X4 : ∀ i, i < 26 → ∃ e, va_up G4 a (some (.inr (7, [.ref q1, .ref q2, .ref q3, .ref q4, .null, .int 0]))) (c4 i) = some e := X4
  have N4 : ∀ i, i < 26 → ¬ c4 i = a := N4
  refine goN go (stp [52]) 160 _ _ _ _ _ _ (fun F hF hF0 => ?_)
  simp only [hF, hF0, ite_not, i_push, i_iload, i_lload, i_aload, i_istore, i_astore, i_lstore, i_iinc, i_bin, i_dv, i_un, i_lbin, i_lsh, i_i2l, i_l2i, i_lcmp, i_dup, i_dup2, i_pop, i_if, i_icmp, i_goto, swG, i_sw, i_getf, i_puti, i_putz, i_putr, i_ald, i_lald, i_aald, i_ast, i_last, i_aast, i_alen, i_new, i_newi, i_newl, i_newq, i_oinit, i_ret, i_zret, i_lret, i_vret, catS, tk, rpush, isO, i_m1, i_m2, i_acopy, i_callV, i_callS, KRet, lget, lput, lputL, lcl0, isL, lv0, List.map_cons, List.map_nil, List.length_cons, List.length_nil, List.cons_append, List.nil_append, Nat.reduceAdd, Nat.reduceSub, Nat.reduceLeDiff, List.replicate_succ, List.replicate_zero, List.getElem?_cons_succ, List.getElem?_cons_zero, List.set_cons_succ, List.set_cons_zero, true_and, and_true, if_true, if_false, ↓reduceIte, Nat.le_refl, Value.category, va_up_app, eq_self, stp, Nat.reduceBEq, Bool.or_false, Bool.false_or, Bool.true_or, Bool.or_true, or_true, true_or, bx_uu, implies_true, true_implies, not_true, not_false_eq_true, false_implies, and_self, Nat.reduceLT, Int32.reduceAdd, Int32.reduceSub, Int32.reduceMul, Int32.reduceLE, Int32.reduceLT, Int32.reduceToNatClampNeg, va_rf_some, Bool.false_eq_true, k_X7_init_0 ca, k_X7_init_1 ca, k_X7_init_4 ca, k_X7_init_5 ca, k_X7_init_8 ca, k_X7_init_9 ca, k_X7_init_12 ca, k_X7_init_15 ca, k_X7_init_16 ca, k_X7_init_19 ca, k_X7_init_20 ca, k_X7_init_23 ca, k_X7_init_26 ca, k_X7_init_27 ca, k_X7_init_30 ca, k_X7_init_31 ca, k_X7_init_34 ca, k_X7_init_37 ca, k_X7_init_38 ca, k_X7_init_41 ca, k_X7_init_42 ca, k_X7_init_45 ca, k_X7_init_48 ca, k_X7_init_49 ca, k_X7_init_52 ca, k_X7_init_53 ca, k_X7_init_56 ca, k_X7_init_59 ca, k_X7_init_60 ca, k_X7_init_61 ca, k_X7_init_64 ca, k4]
  try clear hF hF0 F
  intro q5 hq5
  have hq5 : va_up G4 a (some (.inr (7, [.ref q1, .ref q2, .ref q3, .ref q4, .null, .int 0]))) q5 = none := hq5
  have a4 : va_up G4 a (some (.inr (7, [.ref q1, .ref q2, .ref q3, .ref q4, .null, .int 0]))) a = some (.inr (7, [.ref q1, .ref q2, .ref q3, .ref q4, .null, .int 0])) := va_up_self _ _ _
  generalize va_up G4 a (some (.inr (7, [.ref q1, .ref q2, .ref q3, .ref q4, .null, .int 0]))) = F4 at *
  have h40 := (E4 0 (by decide)).trans h40
  have h41 : SAt ca F4 (fun j => c4 (1 + j)) s0 := SAt_kept h41 (fun j hj => E4 _ (by omega))
  have h42 := (E4 23 (by decide)).trans h42
  have h43 := (E4 24 (by decide)).trans h43
  have h44 := (E4 25 (by decide)).trans h44
  clear E4
  refine goN go (stp [56]) 160 _ _ _ _ _ _ (fun F hF hF0 => ?_)
  simp only [hF, hF0, ite_not, i_push, i_iload, i_lload, i_aload, i_istore, i_astore, i_lstore, i_iinc, i_bin, i_dv, i_un, i_lbin, i_lsh, i_i2l, i_l2i, i_lcmp, i_dup, i_dup2, i_pop, i_if, i_icmp, i_goto, swG, i_sw, i_getf, i_puti, i_putz, i_putr, i_ald, i_lald, i_aald, i_ast, i_last, i_aast, i_alen, i_new, i_newi, i_newl, i_newq, i_oinit, i_ret, i_zret, i_lret, i_vret, catS, tk, rpush, isO, i_m1, i_m2, i_acopy, i_callV, i_callS, KRet, lget, lput, lputL, lcl0, isL, lv0, List.map_cons, List.map_nil, List.length_cons, List.length_nil, List.cons_append, List.nil_append, Nat.reduceAdd, Nat.reduceSub, Nat.reduceLeDiff, List.replicate_succ, List.replicate_zero, List.getElem?_cons_succ, List.getElem?_cons_zero, List.set_cons_succ, List.set_cons_zero, true_and, and_true, if_true, if_false, ↓reduceIte, Nat.le_refl, Value.category, va_up_app, eq_self, stp, Nat.reduceBEq, Bool.or_false, Bool.false_or, Bool.true_or, Bool.or_true, or_true, true_or, bx_uu, implies_true, true_implies, not_true, not_false_eq_true, false_implies, and_self, Nat.reduceLT, Int32.reduceAdd, Int32.reduceSub, Int32.reduceMul, Int32.reduceLE, Int32.reduceLT, Int32.reduceToNatClampNeg, va_rf_some, Bool.false_eq_true, k_X7_init_0 ca, k_X7_init_1 ca, k_X7_init_4 ca, k_X7_init_5 ca, k_X7_init_8 ca, k_X7_init_9 ca, k_X7_init_12 ca, k_X7_init_15 ca, k_X7_init_16 ca, k_X7_init_19 ca, k_X7_init_20 ca, k_X7_init_23 ca, k_X7_init_26 ca, k_X7_init_27 ca, k_X7_init_30 ca, k_X7_init_31 ca, k_X7_init_34 ca, k_X7_init_37 ca, k_X7_init_38 ca, k_X7_init_41 ca, k_X7_init_42 ca, k_X7_init_45 ca, k_X7_init_48 ca, k_X7_init_49 ca, k_X7_init_52 ca, k_X7_init_53 ca, k_X7_init_56 ca, k_X7_init_59 ca, k_X7_init_60 ca, k_X7_init_61 ca, k_X7_init_64 ca]
  try clear hF hF0 F
  refine ⟨q5, rfl, va_up_self _ _ _, fun G5 c5 hc5 C5 h50 h51 h52 h53 h54 => ?_⟩
  have k5 := Bk.keep hq5 C5 hc5 a4
  obtain ⟨B5, A5, N5, E5, X5⟩ := sub_step (eo := .inr (7, [.ref q1, .ref q2, .ref q3, .ref q4, .ref q5, .int 0])) B4 (by decide) hq5 C5 (by decide) hc5
  have B5 : Bk h (va_up G5 a (some (.inr (7, [.ref q1, .ref q2, .ref q3, .ref q4, .ref q5, .int 0])))) (Qa (Qa (Qa (Qa (Qa (fun _ => a) 1 c1) 23 c2) 113 c3) 115 c4) 141 c5) 146 := B5
  have A5 : KA a F4 (va_up G5 a (some (.inr (7, [.ref q1, .ref q2, .ref q3, .ref q4, .ref q5, .int 0])))) := A5
  have E5 : ∀ i, i < 5 → va_up G5 a (some (.inr (7, [.ref q1, .ref q2, .ref q3, .ref q4, .ref q5, .int 0]))) (c5 i) = G5 (c5 i) := E5
  have a5 : va_up G5 a (some (.inr (7, [.ref q1, .ref q2, .ref q3, .ref q4, .ref q5, .int 0]))) a = some (.inr (7, [.ref q1, .ref q2, .ref q3, .ref q4, .ref q5, .int 0])) := va_up_self _ _ _
  have k0 := hs (va_up G5 a (some (.inr (7, [.ref q1, .ref q2, .ref q3, .ref q4, .ref q5, .int 0])))) _ rfl B5
  refine goN go (stp []) 160 _ _ _ _ _ _ (fun F hF hF0 => ?_)
  simp only [hF, hF0, ite_not, i_push, i_iload, i_lload, i_aload, i_istore, i_astore, i_lstore, i_iinc, i_bin, i_dv, i_un, i_lbin, i_lsh, i_i2l, i_l2i, i_lcmp, i_dup, i_dup2, i_pop, i_if, i_icmp, i_goto, swG, i_sw, i_getf, i_puti, i_putz, i_putr, i_ald, i_lald, i_aald, i_ast, i_last, i_aast, i_alen, i_new, i_newi, i_newl, i_newq, i_oinit, i_ret, i_zret, i_lret, i_vret, catS, tk, rpush, isO, i_m1, i_m2, i_acopy, i_callV, i_callS, KRet, lget, lput, lputL, lcl0, isL, lv0, List.map_cons, List.map_nil, List.length_cons, List.length_nil, List.cons_append, List.nil_append, Nat.reduceAdd, Nat.reduceSub, Nat.reduceLeDiff, List.replicate_succ, List.replicate_zero, List.getElem?_cons_succ, List.getElem?_cons_zero, List.set_cons_succ, List.set_cons_zero, true_and, and_true, if_true, if_false, ↓reduceIte, Nat.le_refl, Value.category, va_up_app, eq_self, stp, Nat.reduceBEq, Bool.or_false, Bool.false_or, Bool.true_or, Bool.or_true, or_true, true_or, bx_uu, implies_true, true_implies, not_true, not_false_eq_true, false_implies, and_self, Nat.reduceLT, Int32.reduceAdd, Int32.reduceSub, Int32.reduceMul, Int32.reduceLE, Int32.reduceLT, Int32.reduceToNatClampNeg, va_rf_some, Bool.false_eq_true, k_X7_init_0 ca, k_X7_init_1 ca, k_X7_init_4 ca, k_X7_init_5 ca, k_X7_init_8 ca, k_X7_init_9 ca, k_X7_init_12 ca, k_X7_init_15 ca, k_X7_init_16 ca, k_X7_init_19 ca, k_X7_init_20 ca, k_X7_init_23 ca, k_X7_init_26 ca, k_X7_init_27 ca, k_X7_init_30 ca, k_X7_init_31 ca, k_X7_init_34 ca, k_X7_init_37 ca, k_X7_init_38 ca, k_X7_init_41 ca, k_X7_init_42 ca, k_X7_init_45 ca, k_X7_init_48 ca, k_X7_init_49 ca, k_X7_init_52 ca, k_X7_init_53 ca, k_X7_init_56 ca, k_X7_init_59 ca, k_X7_init_60 ca, k_X7_init_61 ca, k_X7_init_64 ca, k5]
  try clear hF hF0 F
  refine k0 ?_
  clear k0
  generalize va_up G5 a (some (.inr (7, [.ref q1, .ref q2, .ref q3, .ref q4, .ref q5, .int 0]))) = F5 at *
  have K35 := A4.tr A5
  have K25 := A3.tr K35
  have K15 := A2.tr K25
  have r1 : ∀ i j, i < 22 → j = 1 + i → Qa (Qa (Qa (Qa (Qa (fun _ => a) 1 c1) 23 c2) 113 c3) 115 c4) 141 c5 j = c1 i := fun i j hi hj => by subst hj; rw [Qa_lt (by omega), Qa_lt (by omega), Qa_lt (by omega), Qa_lt (by omega), Qa_ge (by omega), Nat.add_sub_cancel_left]
  have r2 : ∀ i j, i < 90 → j = 23 + i → Qa (Qa (Qa (Qa (Qa (fun _ => a) 1 c1) 23 c2) 113 c3) 115 c4) 141 c5 j = c2 i := fun i j hi hj => by subst hj; rw [Qa_lt (by omega), Qa_lt (by omega), Qa_lt (by omega), Qa_ge (by omega), Nat.add_sub_cancel_left]
  have r3 : ∀ i j, i < 2 → j = 113 + i → Qa (Qa (Qa (Qa (Qa (fun _ => a) 1 c1) 23 c2) 113 c3) 115 c4) 141 c5 j = c3 i := fun i j hi hj => by subst hj; rw [Qa_lt (by omega), Qa_lt (by omega), Qa_ge (by omega), Nat.add_sub_cancel_left]
  have r4 : ∀ i j, i < 26 → j = 115 + i → Qa (Qa (Qa (Qa (Qa (fun _ => a) 1 c1) 23 c2) 113 c3) 115 c4) 141 c5 j = c4 i := fun i j hi hj => by subst hj; rw [Qa_lt (by omega), Qa_ge (by omega), Nat.add_sub_cancel_left]
  have r5 : ∀ i j, i < 5 → j = 141 + i → Qa (Qa (Qa (Qa (Qa (fun _ => a) 1 c1) 23 c2) 113 c3) 115 c4) 141 c5 j = c5 i := fun i j hi hj => by subst hj; rw [Qa_ge (by omega), Nat.add_sub_cancel_left]
  have r0 : Qa (Qa (Qa (Qa (Qa (fun _ => a) 1 c1) 23 c2) 113 c3) 115 c4) 141 c5 0 = a := rfl
  generalize Qa (Qa (Qa (Qa (Qa (fun _ => a) 1 c1) 23 c2) 113 c3) 115 c4) 141 c5 = P at *
  refine ⟨?_, ?_, ?_, ⟨hf, ?_, fun i hi => ?_⟩, fun i hi => ?_, ?_, ?_, ?_, ?_, ?_, ?_, ?_, ?_, ?_, ?_, ?_, ?_⟩
  · rw [r0, r1 0 1 (by decide) rfl, r2 0 23 (by decide) rfl, r3 0 113 (by decide) rfl, r4 0 115 (by decide) rfl, r5 0 141 (by decide) rfl, hc1, hc2, hc3, hc4, hc5]; exact a5
  · exact SAt_b (b := c1) (fun j hj => (r1 j _ hj rfl).symm) (SAt_ka S1 X1 N1 K15)
  · rw [r2 0 23 (by decide) rfl, r2 1 24 (by decide) rfl]; exact K25 _ _ (N2 0 (by decide)) h20
  · rw [r2 1 24 (by decide) rfl]; exact K25 _ _ (N2 1 (by decide)) h21
  · rw [r2 (2 + 22 * i) _ (by omega) (by omega)]; exact h22 i hi
  · exact SAt_b (b := fun j => c2 (2 + 22 * i + j)) (fun j hj => (r2 (2 + 22 * i + j) _ (by omega) (by omega)).symm) (SAt_ka (h23 i hi) (fun j hj => X2 _ (by omega)) (fun j hj => N2 _ (by omega)) K25)
  · rw [r3 0 113 (by decide) rfl, r3 1 114 (by decide) rfl]; exact K35 _ _ (N3 0 (by decide)) h30
  · rw [r3 1 114 (by decide) rfl]; exact K35 _ _ (N3 1 (by decide)) h31
  · rw [r4 0 115 (by decide) rfl, r4 1 116 (by decide) rfl, r4 23 138 (by decide) rfl, r4 24 139 (by decide) rfl, r4 25 140 (by decide) rfl]; exact A5 _ _ (N4 0 (by decide)) h40
  · exact SAt_b (b := fun j => c4 (1 + j)) (fun j hj => (r4 (1 + j) _ (by omega) (by omega)).symm) (SAt_ka h41 (fun j hj => X4 _ (by omega)) (fun j hj => N4 _ (by omega)) A5)
  · rw [r4 23 138 (by decide) rfl]; exact A5 _ _ (N4 23 (by decide)) h42
  · rw [r4 24 139 (by decide) rfl]; exact A5 _ _ (N4 24 (by decide)) h43
  · rw [r4 25 140 (by decide) rfl]; exact A5 _ _ (N4 25 (by decide)) h44
  · rw [r5 0 141 (by decide) rfl, r5 1 142 (by decide) rfl, r5 2 143 (by decide) rfl, r5 3 144 (by decide) rfl, r5 4 145 (by decide) rfl]; exact (E5 0 (by decide)).trans h50
  · rw [r5 1 142 (by decide) rfl]; exact (E5 1 (by decide)).trans h51
  · rw [r5 2 143 (by decide) rfl]; exact (E5 2 (by decide)).trans h52
  · rw [r5 3 144 (by decide) rfl]; exact (E5 3 (by decide)).trans h53
  · rw [r5 4 145 (by decide) rfl]; exact (E5 4 (by decide)).trans h54

