/-! SnapStacks: its state and history; recordChange -/
def DJ (o : Nat) (b : Nat → Nat) (qh qa : Nat) (B : Nat → Nat → Nat) : Prop :=
  Inj b ∧ (∀ i, i < 4 → Inj (B i) ∧ Dis (B i) b ∧ ∀ k, k < 22 → ¬ qh = B i k) ∧ (∀ i j, i < 4 → j < 4 → ¬ i = j → Dis (B i) (B j)) ∧ ¬ o = qh ∧ (∀ k, k < 22 → ¬ o = b k) ∧ (∀ i, i < 4 → ∀ k, k < 22 → ¬ o = B i k) ∧ (∀ k, k < 22 → ¬ qh = b k) ∧ ¬ qa = qh ∧ ¬ qa = o ∧ (∀ k, k < 22 → ¬ qa = b k) ∧ (∀ i, i < 4 → ∀ k, k < 22 → ¬ qa = B i k)
def CN (ca : Nat → ClassId) (h : PH) (o : Nat) (b : Nat → Nat) (qh qa : Nat) (B : Nat → Nat → Nat) (x3 x4 x5 : Nat) (lk : Int32) (s : Nat → Int32) (oo ss : Nat) (S : Nat → Nat → Int32) : Prop :=
  h o = some (.inr (7, [.ref (b 0), .ref qh, .ref x3, .ref x4, .ref x5, .int lk])) ∧ SAt ca h b s ∧ HAt ca h qh qa B oo ss S
def SmC (o : Nat) (b : Nat → Nat) (qh : Nat) (B : Nat → Nat → Nat) (h h' : PH) : Prop := ∀ x : Nat, ¬ x = o → (∀ k, k < 22 → ¬ x = b k) → ¬ x = qh → (∀ i, i < 4 → ∀ k, k < 22 → ¬ x = B i k) → h' x = h x
def hiS (oo ss : Nat) (S : Nat → Nat → Int32) (s : Nat → Int32) : Nat → Nat → Int32 := fun i => if i = (oo + ss) % 4 then s else S i
section
variable {ca : Nat → ClassId} {h h1 h2 : PH} {o : Nat} {b : Nat → Nat} {qh qa : Nat} {B : Nat → Nat → Nat} {x3 x4 x5 : Nat} {lk : Int32} {s F : Nat → Int32} {oo ss : Nat} {S : Nat → Nat → Int32} {k : Nat}
theorem SmC.rf : SmC o b qh B h h := fun _ _ _ _ _ => rfl
theorem SmC.tr (x : SmC o b qh B h h1) (y : SmC o b qh B h1 h2) : SmC o b qh B h h2 := fun z a1 a2 a3 a4 => (y z a1 a2 a3 a4).trans (x z a1 a2 a3 a4)
theorem SmC.now (x : Same b h1 h2) : SmC o b qh B h1 h2 := fun z _ a2 _ _ => x z a2
theorem SmC.ob (e : Option va_E) : SmC o b qh B h1 (va_up h1 o e) := fun _ a1 _ _ _ => va_up_ne _ _ a1
theorem CN.now (J : DJ o b qh qa B) (hC : CN ca h1 o b qh qa B x3 x4 x5 lk s oo ss S) (hS : SAt ca h2 b F) (hm : Same b h1 h2) : CN ca h2 o b qh qa B x3 x4 x5 lk F oo ss S := by
  obtain ⟨j1, j2, j3, j4, j5, j6, j7, j8, j9, j10, j11⟩ := J
  obtain ⟨c1, c2, ⟨c3, ⟨f, c4, c5⟩, c6, c7, c8⟩⟩ := hC
  exact ⟨(hm o j5).trans c1, hS, (hm qh j7).trans c3, ⟨f, (hm qa j10).trans c4, c5⟩, fun i hi => SAt_kept (c6 i hi) (fun n hn => hm _ (fun k hk z => ((j2 i hi).2.1 n k hn hk).mp z)), c7, c8⟩
theorem CN.setl (J : DJ o b qh qa B) (hC : CN ca h o b qh qa B x3 x4 x5 lk s oo ss S) (lk' : Int32) : CN ca (va_up h o (some (.inr (7, [.ref (b 0), .ref qh, .ref x3, .ref x4, .ref x5, .int lk'])))) o b qh qa B x3 x4 x5 lk' s oo ss S := by
  obtain ⟨j1, j2, j3, j4, j5, j6, j7, j8, j9, j10, j11⟩ := J
  obtain ⟨c1, c2, ⟨c3, ⟨f, c4, c5⟩, c6, c7, c8⟩⟩ := hC
  exact ⟨va_up_self _ _ _, SAt_kept c2 (fun n hn => va_up_ne _ _ (fun z => j5 n hn z.symm)), (va_up_ne _ _ (fun z => j4 z.symm)).trans c3, ⟨f, (va_up_ne _ _ j9).trans c4, c5⟩, fun i hi => SAt_kept (c6 i hi) (fun n hn => va_up_ne _ _ (fun z => j6 i hi n hn z.symm)), c7, c8⟩
theorem SAt.st (hS : SAt ca h b s) (hk : k < 3) : h (b (7 + 5 * k)) = some (.inr (5, [.ref (b (8 + 5 * k)), .ref (b (9 + 5 * k)), .ref (b (10 + 5 * k)), .int (s (10 + 32 * k)), .int (s (10 + 32 * k + 1)), .int (s (10 + 32 * k + 2)), .int (s (10 + 32 * k + 3)), .int (s (10 + 32 * k + 5)), .int (s (10 + 32 * k + 6)), .int (s (10 + 32 * k + 7)), .int (s (10 + 32 * k + 4))])) := by
  obtain ⟨x0, x1, x2, x3, x4, x5, x6, ⟨x7, -⟩, x8, ⟨x9, -⟩, x10, ⟨x11, -⟩, x12⟩ := hS
  have hk3 : k = 0 ∨ k = 1 ∨ k = 2 := by omega
  rcases hk3 with rfl | rfl | rfl
  · exact x7
  · exact x9
  · exact x11
theorem SAt.rm (hS : SAt ca h b s) (hk : k < 3) : h (b (11 + 5 * k)) = some (.inr (2, [.int (s (106 + 7 * k)), .int (s (106 + 7 * k + 1)), .int (s (106 + 7 * k + 2)), .int (s (106 + 7 * k + 3)), .int (s (106 + 7 * k + 4)), .int (s (106 + 7 * k + 5)), .int (s (106 + 7 * k + 6))])) := by
  obtain ⟨x0, x1, x2, x3, x4, x5, x6, ⟨x7, -⟩, x8, ⟨x9, -⟩, x10, ⟨x11, -⟩, x12⟩ := hS
  have hk3 : k = 0 ∨ k = 1 ∨ k = 2 := by omega
  rcases hk3 with rfl | rfl | rfl
  · exact x8
  · exact x10
  · exact x12
theorem SAt.pl (hS : SAt ca h b s) (hk : k < 3) : Ar h (b (8 + 5 * k)) (ca 0) 8 (fun i => s (10 + 32 * k + (8 + 3 * i))) ∧ Ar h (b (9 + 5 * k)) (ca 0) 8 (fun i => s (10 + 32 * k + (9 + 3 * i))) ∧ Ar h (b (10 + 5 * k)) (ca 0) 8 (fun i => s (10 + 32 * k + (10 + 3 * i))) := by
  obtain ⟨x0, x1, x2, x3, x4, x5, x6, ⟨-, x7⟩, x8, ⟨-, x9⟩, x10, ⟨-, x11⟩, x12⟩ := hS
  have hk3 : k = 0 ∨ k = 1 ∨ k = 2 := by omega
  rcases hk3 with rfl | rfl | rfl
  · exact x7
  · exact x9
  · exact x11
theorem SAt.sst (hb : Inj b) (hS : SAt ca h b s) (hk : k < 3) (t : Nat → Int32) : SAt ca (va_up h (b (7 + 5 * k)) (some (.inr (5, [.ref (b (8 + 5 * k)), .ref (b (9 + 5 * k)), .ref (b (10 + 5 * k)), .int (t 0), .int (t 1), .int (t 2), .int (t 3), .int (t 5), .int (t 6), .int (t 7), .int (t 4)])))) b (ovr s (10 + 32 * k) 8 t) := by
  have hk3 : k = 0 ∨ k = 1 ∨ k = 2 := by omega
  rcases hk3 with rfl | rfl | rfl
  · exact SAt_strip0 hb hS t
  · exact SAt_strip1 hb hS t
  · exact SAt_strip2 hb hS t
theorem SAt.sr (hb : Inj b) (hS : SAt ca h b s) (hk : k < 3) (t : Nat → Int32) : SAt ca (va_up h (b (11 + 5 * k)) (some (.inr (2, [.int (t 0), .int (t 1), .int (t 2), .int (t 3), .int (t 4), .int (t 5), .int (t 6)])))) b (ovr s (106 + 7 * k) 7 t) := by
  have hk3 : k = 0 ∨ k = 1 ∨ k = 2 := by omega
  rcases hk3 with rfl | rfl | rfl
  · exact SAt_room0 hb hS t
  · exact SAt_room1 hb hS t
  · exact SAt_room2 hb hS t
/-- the cells of a State that are read on the way to a strip or a room -/
theorem SAt.c (hS : SAt ca h b s) : h (b 0) = some (.inr (4, [.ref (b 1), .ref (b 2), .ref (b 3), .ref (b 4), .int (s 8), .int (s 9), .ref (b 5), .ref (b 6)])) ∧ (∃ f, h (b 3) = some (.inl (ca 6, 3, .inr (.inr (.inr (.inr f))))) ∧ ∀ k, k < 3 → f k = some (b (7 + 5 * k))) ∧ (∃ f, h (b 4) = some (.inl (ca 4, 3, .inr (.inr (.inr (.inr f))))) ∧ ∀ k, k < 3 → f k = some (b (11 + 5 * k))) ∧ (∃ f, h (b 1) = some (.inl (ca 0, 6, .inl f)) ∧ ∀ i, i < 6 → f i = s i) ∧ (∃ f, h (b 2) = some (.inl (ca 0, 2, .inl f)) ∧ ∀ i, i < 2 → f i = s (6 + i)) := by
  obtain ⟨x0, ⟨f1, x1, y1⟩, ⟨f2, x2, y2⟩, ⟨f3, x3, y3⟩, ⟨f4, x4, y4⟩, -⟩ := hS
  exact ⟨x0, ⟨f3, x3, y3⟩, ⟨f4, x4, y4⟩, ⟨f1, x1, y1⟩, ⟨f2, x2, y2⟩⟩
end
def sp_X7_recordChange (ca : Nat → ClassId) : SPEC := fun av h post => ∃ o b qh qa B x3 x4 x5 lk s oo ss S, av = [.ref o] ∧ DJ o b qh qa B ∧ CN ca h o b qh qa B x3 x4 x5 lk s oo ss S ∧ BoS s ∧
  ∀ h', CN ca h' o b qh qa B x3 x4 x5 0 s (hiO oo ss) (hiZ ss) (hiS oo ss S s) → SmC o b qh B h h' → post none h'
theorem hiO_lt {oo ss : Nat} (h : oo < 4) : hiO oo ss < 4 := by unfold hiO; split <;> omega
theorem hiZ_le {ss : Nat} (h : ss ≤ 4) : hiZ ss ≤ 4 := by unfold hiZ; split <;> omega
def k_X7_recordChange (ca : Nat → ClassId) : Nat → IT := fun pc => lk pc [(0, i_aload 0 1),
  (1, i_getf 7 1 4),
  (4, i_aload 0 5),
  (5, i_getf 7 0 8),
  (8, i_callV 0 1 0 0 0 0 (sp_X0_take ca) 11),
  (11, i_aload 0 12),
  (12, i_push (.int 0) 13),
  (13, i_putz 7 5 16),
  (16, i_vret)]
set_option maxRecDepth 20000 in
theorem t_X7_recordChange : Tb k_X7_recordChange yX7_recordChange cX7_recordChange 1 none 4 0 0 := by
  intro l D ca A p e s m args below meth c post X
  unfold k_X7_recordChange
  refine snd_cons (snd_aload_n X dX7_recordChange_0 rfl) ?_
  refine snd_cons (snd_getf X Fk7 1 (by decide) w_251 dX7_recordChange_1) ?_
  refine snd_cons (snd_aload_n X dX7_recordChange_4 rfl) ?_
  refine snd_cons (snd_getf X Fk7 0 (by decide) w_250 dX7_recordChange_5) ?_
  refine snd_cons (snd_callV X Fk0 (ok_X0_take l D ca) rfl rfl w_478 w_479 w_480 w_5 w_481 (by decide) (by decide) dX7_recordChange_8) ?_
  refine snd_cons (snd_aload_n X dX7_recordChange_11 rfl) ?_
  refine snd_cons (snd_iconst X dX7_recordChange_12 (by decide)) ?_
  refine snd_cons (snd_putz X Fk7 5 (by decide) rfl rfl w_255 dX7_recordChange_13) ?_
  refine snd_cons (snd_vret X dX7_recordChange_16) ?_
  exact snd_nil
theorem k_X7_recordChange_0 (ca : Nat → ClassId) : k_X7_recordChange ca 0 = i_aload 0 1 := rfl
theorem k_X7_recordChange_1 (ca : Nat → ClassId) : k_X7_recordChange ca 1 = i_getf 7 1 4 := rfl
theorem k_X7_recordChange_4 (ca : Nat → ClassId) : k_X7_recordChange ca 4 = i_aload 0 5 := rfl
theorem k_X7_recordChange_5 (ca : Nat → ClassId) : k_X7_recordChange ca 5 = i_getf 7 0 8 := rfl
theorem k_X7_recordChange_8 (ca : Nat → ClassId) : k_X7_recordChange ca 8 = i_callV 0 1 0 0 0 0 (sp_X0_take ca) 11 := rfl
theorem k_X7_recordChange_11 (ca : Nat → ClassId) : k_X7_recordChange ca 11 = i_aload 0 12 := rfl
theorem k_X7_recordChange_12 (ca : Nat → ClassId) : k_X7_recordChange ca 12 = i_push (.int 0) 13 := rfl
theorem k_X7_recordChange_13 (ca : Nat → ClassId) : k_X7_recordChange ca 13 = i_putz 7 5 16 := rfl
theorem k_X7_recordChange_16 (ca : Nat → ClassId) : k_X7_recordChange ca 16 = i_vret := rfl
set_option maxHeartbeats 4000000 in
set_option maxRecDepth 20000 in
theorem ok_X7_recordChange (l : Launch) (D : va_G) (ca : Nat → ClassId) : OkAll l D ca yX7_recordChange cX7_recordChange 1 none 4 0 0 (sp_X7_recordChange ca) := by
  intro av h post hs
  obtain ⟨o, b, qh, qa, B, x3, x4, x5, lk, s, oo, ss, S, rfl, J, hC, hbo, hs⟩ := hs
  obtain ⟨c1, c2, c3⟩ := id hC
  obtain ⟨e1, ⟨f, e2, e3⟩, e4, e5, e6⟩ := id c3
  unfold eHist at e1
  obtain ⟨j1, j2, j3, j4, j5, j6, j7, j8, j9, j10, j11⟩ := id J
  have hj : (oo + ss) % 4 < 4 := Nat.mod_lt _ (by decide)
  refine okM_of t_X7_recordChange (by decide +kernel) (c1_ref c1_nil) (Nat.le_of_ble_eq_true rfl) ?_
  intro K go
  refine goN go (stp [11]) 160 _ _ _ _ _ _ (fun F hF hF0 => ?_)
  simp only [hF, hF0, ite_not, i_push, i_iload, i_lload, i_aload, i_istore, i_astore, i_lstore, i_iinc, i_bin, i_dv, i_un, i_lbin, i_lsh, i_i2l, i_l2i, i_lcmp, i_dup, i_dup2, i_pop, i_if, i_icmp, i_goto, swG, i_sw, i_getf, i_puti, i_putz, i_putr, i_ald, i_lald, i_aald, i_ast, i_last, i_aast, i_alen, i_new, i_newi, i_newl, i_newq, i_oinit, i_ret, i_zret, i_lret, i_vret, catS, tk, rpush, isO, i_m1, i_m2, i_acopy, i_callV, i_callS, KRet, lget, lput, lputL, lcl0, isL, lv0, List.map_cons, List.map_nil, List.length_cons, List.length_nil, List.cons_append, List.nil_append, Nat.reduceAdd, Nat.reduceSub, Nat.reduceLeDiff, List.replicate_succ, List.replicate_zero, List.getElem?_cons_succ, List.getElem?_cons_zero, List.set_cons_succ, List.set_cons_zero, true_and, and_true, if_true, if_false, ↓reduceIte, Nat.le_refl, Value.category, va_up_app, eq_self, stp, Nat.reduceBEq, Bool.or_false, Bool.false_or, Bool.true_or, Bool.or_true, or_true, true_or, bx_uu, implies_true, true_implies, not_true, not_false_eq_true, false_implies, and_self, Nat.reduceLT, Int32.reduceAdd, Int32.reduceSub, Int32.reduceMul, Int32.reduceLE, Int32.reduceLT, Int32.reduceToNatClampNeg, va_rf_some, Bool.false_eq_true, k_X7_recordChange_0 ca, k_X7_recordChange_1 ca, k_X7_recordChange_4 ca, k_X7_recordChange_5 ca, k_X7_recordChange_8 ca, k_X7_recordChange_11 ca, k_X7_recordChange_12 ca, k_X7_recordChange_13 ca, k_X7_recordChange_16 ca, c1, e1]
  try clear hF hF0 F
  refine ⟨qh, qa, B, b, oo, ss, S, s, rfl, c3, j2, j1, c2, hbo, fun h' p1 p2 p3 => ?_⟩
  have g0 : h' o = some (.inr (7, [.ref (b 0), .ref qh, .ref x3, .ref x4, .ref x5, .int lk])) := (p3 o j4 (fun k hk => j6 _ hj k hk)).trans c1
  have hbk : ∀ k, k < 22 → h' (b k) = h (b k) := fun k hk => p3 (b k) (fun z => j7 k hk z.symm) (fun n hn z => ((j2 _ hj).2.1 n k hn hk).mp z.symm)
  have hC1 : CN ca h' o b qh qa B x3 x4 x5 lk s (hiO oo ss) (hiZ ss) (hiS oo ss S s) := by
    refine ⟨g0, SAt_kept c2 hbk, p1, ⟨f, (p3 qa j8 (fun k hk => j11 _ hj k hk)).trans e2, e3⟩, fun i hi => ?_, hiO_lt e5, hiZ_le e6⟩
    unfold hiS
    by_cases q : i = (oo + ss) % 4
    · rw [if_pos q, q]; exact p2
    · rw [if_neg q]
      exact SAt_kept (e4 i hi) (fun n hn => p3 _ (fun z => (j2 i hi).2.2 n hn z.symm) (fun k hk z => (j3 i _ hi hj q n k hn hk).mp z))
  have k0 := hs _ (hC1.setl J 0) (fun z a1 a2 a3 a4 => (va_up_ne _ _ a1).trans (p3 z a3 (fun k hk => a4 _ hj k hk)))
  refine goN go (stp []) 160 _ _ _ _ _ _ (fun F hF hF0 => ?_)
  simp only [hF, hF0, ite_not, i_push, i_iload, i_lload, i_aload, i_istore, i_astore, i_lstore, i_iinc, i_bin, i_dv, i_un, i_lbin, i_lsh, i_i2l, i_l2i, i_lcmp, i_dup, i_dup2, i_pop, i_if, i_icmp, i_goto, swG, i_sw, i_getf, i_puti, i_putz, i_putr, i_ald, i_lald, i_aald, i_ast, i_last, i_aast, i_alen, i_new, i_newi, i_newl, i_newq, i_oinit, i_ret, i_zret, i_lret, i_vret, catS, tk, rpush, isO, i_m1, i_m2, i_acopy, i_callV, i_callS, KRet, lget, lput, lputL, lcl0, isL, lv0, List.map_cons, List.map_nil, List.length_cons, List.length_nil, List.cons_append, List.nil_append, Nat.reduceAdd, Nat.reduceSub, Nat.reduceLeDiff, List.replicate_succ, List.replicate_zero, List.getElem?_cons_succ, List.getElem?_cons_zero, List.set_cons_succ, List.set_cons_zero, true_and, and_true, if_true, if_false, ↓reduceIte, Nat.le_refl, Value.category, va_up_app, eq_self, stp, Nat.reduceBEq, Bool.or_false, Bool.false_or, Bool.true_or, Bool.or_true, or_true, true_or, bx_uu, implies_true, true_implies, not_true, not_false_eq_true, false_implies, and_self, Nat.reduceLT, Int32.reduceAdd, Int32.reduceSub, Int32.reduceMul, Int32.reduceLE, Int32.reduceLT, Int32.reduceToNatClampNeg, va_rf_some, Bool.false_eq_true, k_X7_recordChange_0 ca, k_X7_recordChange_1 ca, k_X7_recordChange_4 ca, k_X7_recordChange_5 ca, k_X7_recordChange_8 ca, k_X7_recordChange_11 ca, k_X7_recordChange_12 ca, k_X7_recordChange_13 ca, k_X7_recordChange_16 ca, g0]
  try clear hF hF0 F
  exact k0
/-! the acts of metals, strips and rooms -/
def actC (ca : Nat → ClassId) (h : PH) (o : Nat) (b : Nat → Nat) (qh qa : Nat) (B : Nat → Nat → Nat) (x3 x4 x5 : Nat) (s : Nat → Int32) (oo ss : Nat) (S : Nat → Nat → Int32) (post : Option Value → PH → Prop) (v : Bool) (x : Int32) (F : Nat → Int32) : Prop :=
  (v = false → post (some (.int x)) h) ∧ (v = true → ∀ h', CN ca h' o b qh qa B x3 x4 x5 0 F (hiO oo ss) (hiZ ss) (hiS oo ss S s) → SmC o b qh B h h' → post (some (.int x)) h')
theorem rec_of {ca : Nat → ClassId} {h : PH} {o : Nat} {b : Nat → Nat} {qh qa : Nat} {B : Nat → Nat → Nat} {x3 x4 x5 : Nat} {lk : Int32} {s : Nat → Int32} {oo ss : Nat} {S : Nat → Nat → Int32} {post : Option Value → PH → Prop} (J : DJ o b qh qa B) (hC : CN ca h o b qh qa B x3 x4 x5 lk s oo ss S) (hbo : BoS s) (hp : ∀ h', CN ca h' o b qh qa B x3 x4 x5 0 s (hiO oo ss) (hiZ ss) (hiS oo ss S s) → SmC o b qh B h h' → post none h') : sp_X7_recordChange ca [.ref o] h post := ⟨o, b, qh, qa, B, x3, x4, x5, lk, s, oo, ss, S, rfl, J, hC, hbo, hp⟩
def vMetal (x y : Int32) : Bool := isIn x 0 5 && isIn y 0 30
def vWarm (x y : Int32) : Bool := isIn x 0 2 && isIn y (-500) 1500
theorem vp3 {k : Nat} (h : k < 3) : vp_in (nI k) 3 := vp_in_nI h (by decide)
theorem bne {b : Nat → Nat} (hb : Inj b) {i j : Nat} (h : ¬ i = j) : (b i = b j) = False := eq_false (fun z => h ((hb i j).mp z))
def sp_X7_metal (ca : Nat → ClassId) : SPEC := fun av h post => ∃ o b qh qa B x3 x4 x5 lk s oo ss S x y, av = [.ref o, .int x, .int y] ∧ DJ o b qh qa B ∧ CN ca h o b qh qa B x3 x4 x5 lk s oo ss S ∧ BoS s ∧ actC ca h o b qh qa B x3 x4 x5 s oo ss S post (vMetal x y) (aMetal s x y) (upd s x.toNatClampNeg y)
def k_X7_metal (ca : Nat → ClassId) : Nat → IT := fun pc => lk pc [(0, i_iload 1 1),
  (1, i_push (.int 0) 2),
  (2, i_push (.int 5) 3),
  (3, i_callS 3 0 0 0 0 (sp_X7_isWithin ca) 6),
  (6, i_if (fun x => x = 0) 19 9),
  (9, i_iload 2 10),
  (10, i_push (.int 0) 11),
  (11, i_push (.int 30) 13),
  (13, i_callS 3 0 0 0 0 (sp_X7_isWithin ca) 16),
  (16, i_if (fun x => ¬ x = 0) 22 19),
  (19, i_push (.int (-10000001)) 21),
  (21, i_ret),
  (22, i_aload 0 23),
  (23, i_callV 7 0 0 0 0 0 (sp_X7_recordChange ca) 26),
  (26, i_aload 0 27),
  (27, i_getf 7 0 30),
  (30, i_getf 4 0 33),
  (33, i_iload 1 34),
  (34, i_ald (ca 0) 35),
  (35, i_istore 3 36),
  (36, i_aload 0 37),
  (37, i_getf 7 0 40),
  (40, i_getf 4 0 43),
  (43, i_iload 1 44),
  (44, i_iload 2 45),
  (45, i_ast (fun x => x) (ca 0) 46),
  (46, i_iload 3 47),
  (47, i_ret)]
set_option maxRecDepth 20000 in
theorem t_X7_metal : Tb k_X7_metal yX7_metal cX7_metal 4 (some .int) 5 0 0 := by
  intro l D ca A p e s m args below meth c post X
  unfold k_X7_metal
  refine snd_cons (snd_iload_n X dX7_metal_0 rfl) ?_
  refine snd_cons (snd_iconst X dX7_metal_1 (by decide)) ?_
  refine snd_cons (snd_iconst X dX7_metal_2 (by decide)) ?_
  refine snd_cons (snd_callS X (ok_X7_isWithin l D ca) rfl rfl w_281 w_282 w_1 w_283 (by decide) (by decide) dX7_metal_3) ?_
  refine snd_cons (snd_if_eq X dX7_metal_6 (by decide)) ?_
  refine snd_cons (snd_iload_n X dX7_metal_9 rfl) ?_
  refine snd_cons (snd_iconst X dX7_metal_10 (by decide)) ?_
  refine snd_cons (snd_bipush X dX7_metal_11 (by decide)) ?_
  refine snd_cons (snd_callS X (ok_X7_isWithin l D ca) rfl rfl w_281 w_282 w_1 w_283 (by decide) (by decide) dX7_metal_13) ?_
  refine snd_cons (snd_if_ne X dX7_metal_16 (by decide)) ?_
  refine snd_cons (snd_ldc X w_284 dX7_metal_19) ?_
  refine snd_cons (snd_ret X dX7_metal_21) ?_
  refine snd_cons (snd_aload_n X dX7_metal_22 rfl) ?_
  refine snd_cons (snd_callV X Fk7 (ok_X7_recordChange l D ca) rfl rfl w_474 w_476 wp_4 w_1 w_477 (by decide) (by decide) dX7_metal_23) ?_
  refine snd_cons (snd_aload_n X dX7_metal_26 rfl) ?_
  refine snd_cons (snd_getf X Fk7 0 (by decide) w_250 dX7_metal_27) ?_
  refine snd_cons (snd_getf X Fk4 0 (by decide) w_123 dX7_metal_30) ?_
  refine snd_cons (snd_iload_n X dX7_metal_33 rfl) ?_
  refine snd_cons (snd_iaload X dX7_metal_34) ?_
  refine snd_cons (snd_istore_n X dX7_metal_35 rfl (by decide)) ?_
  refine snd_cons (snd_aload_n X dX7_metal_36 rfl) ?_
  refine snd_cons (snd_getf X Fk7 0 (by decide) w_250 dX7_metal_37) ?_
  refine snd_cons (snd_getf X Fk4 0 (by decide) w_123 dX7_metal_40) ?_
  refine snd_cons (snd_iload_n X dX7_metal_43 rfl) ?_
  refine snd_cons (snd_iload_n X dX7_metal_44 rfl) ?_
  refine snd_cons (snd_iastore X dX7_metal_45) ?_
  refine snd_cons (snd_iload_n X dX7_metal_46 rfl) ?_
  refine snd_cons (snd_ret X dX7_metal_47) ?_
  exact snd_nil
theorem k_X7_metal_0 (ca : Nat → ClassId) : k_X7_metal ca 0 = i_iload 1 1 := rfl
theorem k_X7_metal_1 (ca : Nat → ClassId) : k_X7_metal ca 1 = i_push (.int 0) 2 := rfl
theorem k_X7_metal_2 (ca : Nat → ClassId) : k_X7_metal ca 2 = i_push (.int 5) 3 := rfl
theorem k_X7_metal_3 (ca : Nat → ClassId) : k_X7_metal ca 3 = i_callS 3 0 0 0 0 (sp_X7_isWithin ca) 6 := rfl
theorem k_X7_metal_6 (ca : Nat → ClassId) : k_X7_metal ca 6 = i_if (fun x => x = 0) 19 9 := rfl
theorem k_X7_metal_9 (ca : Nat → ClassId) : k_X7_metal ca 9 = i_iload 2 10 := rfl
theorem k_X7_metal_10 (ca : Nat → ClassId) : k_X7_metal ca 10 = i_push (.int 0) 11 := rfl
theorem k_X7_metal_11 (ca : Nat → ClassId) : k_X7_metal ca 11 = i_push (.int 30) 13 := rfl
theorem k_X7_metal_13 (ca : Nat → ClassId) : k_X7_metal ca 13 = i_callS 3 0 0 0 0 (sp_X7_isWithin ca) 16 := rfl
theorem k_X7_metal_16 (ca : Nat → ClassId) : k_X7_metal ca 16 = i_if (fun x => ¬ x = 0) 22 19 := rfl
theorem k_X7_metal_19 (ca : Nat → ClassId) : k_X7_metal ca 19 = i_push (.int (-10000001)) 21 := rfl
theorem k_X7_metal_21 (ca : Nat → ClassId) : k_X7_metal ca 21 = i_ret := rfl
theorem k_X7_metal_22 (ca : Nat → ClassId) : k_X7_metal ca 22 = i_aload 0 23 := rfl
theorem k_X7_metal_23 (ca : Nat → ClassId) : k_X7_metal ca 23 = i_callV 7 0 0 0 0 0 (sp_X7_recordChange ca) 26 := rfl
theorem k_X7_metal_26 (ca : Nat → ClassId) : k_X7_metal ca 26 = i_aload 0 27 := rfl
theorem k_X7_metal_27 (ca : Nat → ClassId) : k_X7_metal ca 27 = i_getf 7 0 30 := rfl
theorem k_X7_metal_30 (ca : Nat → ClassId) : k_X7_metal ca 30 = i_getf 4 0 33 := rfl
theorem k_X7_metal_33 (ca : Nat → ClassId) : k_X7_metal ca 33 = i_iload 1 34 := rfl
theorem k_X7_metal_34 (ca : Nat → ClassId) : k_X7_metal ca 34 = i_ald (ca 0) 35 := rfl
theorem k_X7_metal_35 (ca : Nat → ClassId) : k_X7_metal ca 35 = i_istore 3 36 := rfl
theorem k_X7_metal_36 (ca : Nat → ClassId) : k_X7_metal ca 36 = i_aload 0 37 := rfl
theorem k_X7_metal_37 (ca : Nat → ClassId) : k_X7_metal ca 37 = i_getf 7 0 40 := rfl
theorem k_X7_metal_40 (ca : Nat → ClassId) : k_X7_metal ca 40 = i_getf 4 0 43 := rfl
theorem k_X7_metal_43 (ca : Nat → ClassId) : k_X7_metal ca 43 = i_iload 1 44 := rfl
theorem k_X7_metal_44 (ca : Nat → ClassId) : k_X7_metal ca 44 = i_iload 2 45 := rfl
theorem k_X7_metal_45 (ca : Nat → ClassId) : k_X7_metal ca 45 = i_ast (fun x => x) (ca 0) 46 := rfl
theorem k_X7_metal_46 (ca : Nat → ClassId) : k_X7_metal ca 46 = i_iload 3 47 := rfl
theorem k_X7_metal_47 (ca : Nat → ClassId) : k_X7_metal ca 47 = i_ret := rfl
set_option maxHeartbeats 4000000 in
set_option maxRecDepth 20000 in
theorem ok_X7_metal (l : Launch) (D : va_G) (ca : Nat → ClassId) : OkAll l D ca yX7_metal cX7_metal 4 (some .int) 5 0 0 (sp_X7_metal ca) := by
  intro av h post hs
  obtain ⟨o, b, qh, qa, B, x3, x4, x5, lk, s, oo, ss, S, x, y, rfl, J, hC, hbo, hs⟩ := hs
  have hb := J.1
  unfold aMetal vMetal at hs
  have c0 := hC.1
  refine okM_of t_X7_metal (by decide +kernel) (c1_ref (c1_int (c1_int c1_nil))) (Nat.le_of_ble_eq_true rfl) ?_
  intro K go
  cases q1 : isIn x 0 5 with
  | false =>
    rw [q1, if_neg (by decide)] at hs
    have k0 := hs.1 rfl
    refine goN go (stp []) 160 _ _ _ _ _ _ (fun F hF hF0 => ?_)
    simp only [hF, hF0, ite_not, i_push, i_iload, i_lload, i_aload, i_istore, i_astore, i_lstore, i_iinc, i_bin, i_dv, i_un, i_lbin, i_lsh, i_i2l, i_l2i, i_lcmp, i_dup, i_dup2, i_pop, i_if, i_icmp, i_goto, swG, i_sw, i_getf, i_puti, i_putz, i_putr, i_ald, i_lald, i_aald, i_ast, i_last, i_aast, i_alen, i_new, i_newi, i_newl, i_newq, i_oinit, i_ret, i_zret, i_lret, i_vret, catS, tk, rpush, isO, i_m1, i_m2, i_acopy, i_callV, i_callS, KRet, lget, lput, lputL, lcl0, isL, lv0, List.map_cons, List.map_nil, List.length_cons, List.length_nil, List.cons_append, List.nil_append, Nat.reduceAdd, Nat.reduceSub, Nat.reduceLeDiff, List.replicate_succ, List.replicate_zero, List.getElem?_cons_succ, List.getElem?_cons_zero, List.set_cons_succ, List.set_cons_zero, true_and, and_true, if_true, if_false, ↓reduceIte, Nat.le_refl, Value.category, va_up_app, eq_self, stp, Nat.reduceBEq, Bool.or_false, Bool.false_or, Bool.true_or, Bool.or_true, or_true, true_or, bx_uu, implies_true, true_implies, not_true, not_false_eq_true, false_implies, and_self, Nat.reduceLT, Int32.reduceAdd, Int32.reduceSub, Int32.reduceMul, Int32.reduceLE, Int32.reduceLT, Int32.reduceToNatClampNeg, va_rf_some, Bool.false_eq_true, k_X7_metal_0 ca, k_X7_metal_1 ca, k_X7_metal_2 ca, k_X7_metal_3 ca, k_X7_metal_6 ca, k_X7_metal_9 ca, k_X7_metal_10 ca, k_X7_metal_11 ca, k_X7_metal_13 ca, k_X7_metal_16 ca, k_X7_metal_19 ca, k_X7_metal_21 ca, k_X7_metal_22 ca, k_X7_metal_23 ca, k_X7_metal_26 ca, k_X7_metal_27 ca, k_X7_metal_30 ca, k_X7_metal_33 ca, k_X7_metal_34 ca, k_X7_metal_35 ca, k_X7_metal_36 ca, k_X7_metal_37 ca, k_X7_metal_40 ca, k_X7_metal_43 ca, k_X7_metal_44 ca, k_X7_metal_45 ca, k_X7_metal_46 ca, k_X7_metal_47 ca, sp_X7_isWithin, q1, b2i_f]
    try clear hF hF0 F
    exact k0
  | true =>
    rw [q1, if_pos rfl] at hs
    cases q2 : isIn y 0 30 with
    | false =>
      rw [q2, if_neg (by decide)] at hs
      have k0 := hs.1 rfl
      refine goN go (stp []) 160 _ _ _ _ _ _ (fun F hF hF0 => ?_)
      simp only [hF, hF0, ite_not, i_push, i_iload, i_lload, i_aload, i_istore, i_astore, i_lstore, i_iinc, i_bin, i_dv, i_un, i_lbin, i_lsh, i_i2l, i_l2i, i_lcmp, i_dup, i_dup2, i_pop, i_if, i_icmp, i_goto, swG, i_sw, i_getf, i_puti, i_putz, i_putr, i_ald, i_lald, i_aald, i_ast, i_last, i_aast, i_alen, i_new, i_newi, i_newl, i_newq, i_oinit, i_ret, i_zret, i_lret, i_vret, catS, tk, rpush, isO, i_m1, i_m2, i_acopy, i_callV, i_callS, KRet, lget, lput, lputL, lcl0, isL, lv0, List.map_cons, List.map_nil, List.length_cons, List.length_nil, List.cons_append, List.nil_append, Nat.reduceAdd, Nat.reduceSub, Nat.reduceLeDiff, List.replicate_succ, List.replicate_zero, List.getElem?_cons_succ, List.getElem?_cons_zero, List.set_cons_succ, List.set_cons_zero, true_and, and_true, if_true, if_false, ↓reduceIte, Nat.le_refl, Value.category, va_up_app, eq_self, stp, Nat.reduceBEq, Bool.or_false, Bool.false_or, Bool.true_or, Bool.or_true, or_true, true_or, bx_uu, implies_true, true_implies, not_true, not_false_eq_true, false_implies, and_self, Nat.reduceLT, Int32.reduceAdd, Int32.reduceSub, Int32.reduceMul, Int32.reduceLE, Int32.reduceLT, Int32.reduceToNatClampNeg, va_rf_some, Bool.false_eq_true, k_X7_metal_0 ca, k_X7_metal_1 ca, k_X7_metal_2 ca, k_X7_metal_3 ca, k_X7_metal_6 ca, k_X7_metal_9 ca, k_X7_metal_10 ca, k_X7_metal_11 ca, k_X7_metal_13 ca, k_X7_metal_16 ca, k_X7_metal_19 ca, k_X7_metal_21 ca, k_X7_metal_22 ca, k_X7_metal_23 ca, k_X7_metal_26 ca, k_X7_metal_27 ca, k_X7_metal_30 ca, k_X7_metal_33 ca, k_X7_metal_34 ca, k_X7_metal_35 ca, k_X7_metal_36 ca, k_X7_metal_37 ca, k_X7_metal_40 ca, k_X7_metal_43 ca, k_X7_metal_44 ca, k_X7_metal_45 ca, k_X7_metal_46 ca, k_X7_metal_47 ca, sp_X7_isWithin, q1, q2, b2i_f, b2i_t, one0]
      try clear hF hF0 F
      exact k0
    | true =>
      rw [q2, if_pos rfl] at hs
      obtain ⟨X, hX, rfl⟩ := isIn0 (B := 5) rfl q1
      have xx : (nI X).toNatClampNeg = X := tn127 (by omega)
      have vx : vp_in (nI X) 6 := vp_in_nI (by omega) (by decide)
      rw [xx] at hs
      refine goN go (stp [26]) 160 _ _ _ _ _ _ (fun F hF hF0 => ?_)
      simp only [hF, hF0, ite_not, i_push, i_iload, i_lload, i_aload, i_istore, i_astore, i_lstore, i_iinc, i_bin, i_dv, i_un, i_lbin, i_lsh, i_i2l, i_l2i, i_lcmp, i_dup, i_dup2, i_pop, i_if, i_icmp, i_goto, swG, i_sw, i_getf, i_puti, i_putz, i_putr, i_ald, i_lald, i_aald, i_ast, i_last, i_aast, i_alen, i_new, i_newi, i_newl, i_newq, i_oinit, i_ret, i_zret, i_lret, i_vret, catS, tk, rpush, isO, i_m1, i_m2, i_acopy, i_callV, i_callS, KRet, lget, lput, lputL, lcl0, isL, lv0, List.map_cons, List.map_nil, List.length_cons, List.length_nil, List.cons_append, List.nil_append, Nat.reduceAdd, Nat.reduceSub, Nat.reduceLeDiff, List.replicate_succ, List.replicate_zero, List.getElem?_cons_succ, List.getElem?_cons_zero, List.set_cons_succ, List.set_cons_zero, true_and, and_true, if_true, if_false, ↓reduceIte, Nat.le_refl, Value.category, va_up_app, eq_self, stp, Nat.reduceBEq, Bool.or_false, Bool.false_or, Bool.true_or, Bool.or_true, or_true, true_or, bx_uu, implies_true, true_implies, not_true, not_false_eq_true, false_implies, and_self, Nat.reduceLT, Int32.reduceAdd, Int32.reduceSub, Int32.reduceMul, Int32.reduceLE, Int32.reduceLT, Int32.reduceToNatClampNeg, va_rf_some, Bool.false_eq_true, k_X7_metal_0 ca, k_X7_metal_1 ca, k_X7_metal_2 ca, k_X7_metal_3 ca, k_X7_metal_6 ca, k_X7_metal_9 ca, k_X7_metal_10 ca, k_X7_metal_11 ca, k_X7_metal_13 ca, k_X7_metal_16 ca, k_X7_metal_19 ca, k_X7_metal_21 ca, k_X7_metal_22 ca, k_X7_metal_23 ca, k_X7_metal_26 ca, k_X7_metal_27 ca, k_X7_metal_30 ca, k_X7_metal_33 ca, k_X7_metal_34 ca, k_X7_metal_35 ca, k_X7_metal_36 ca, k_X7_metal_37 ca, k_X7_metal_40 ca, k_X7_metal_43 ca, k_X7_metal_44 ca, k_X7_metal_45 ca, k_X7_metal_46 ca, k_X7_metal_47 ca, sp_X7_isWithin, q1, q2, b2i_t, one0, c0]
      try clear hF hF0 F
      refine rec_of J hC hbo (fun h1 hC1 hm1 => ?_)
      obtain ⟨d1, d2, -⟩ := id hC1
      obtain ⟨e0, -, -, ⟨f1, e1, e2⟩, -⟩ := d2.c
      have e3 := e2 X (by omega)
      have hS2 := SAt_num hb d2 (upd f1 X y)
      have hS3 : SAt ca (va_up h1 (b 1) (some (.inl (ca 0, 6, .inl (upd f1 X y))))) b (upd s X y) := SAt_cong hS2 (fun j hj => by
        rw [upd_app]
        by_cases z : j < 6
        · rw [show ovr s 0 6 (upd f1 X y) j = upd f1 X y j by unfold ovr; rw [if_pos (by omega), Nat.sub_zero], upd_app, e2 j z]
        · rw [ovr_out (by omega), if_neg (by omega)])
      have k0 := hs.2 rfl _ (hC1.now J hS3 (Same_up (by decide) _)) (hm1.tr (SmC.now (Same_up (by decide) _)))
      refine goN go (stp []) 160 _ _ _ _ _ _ (fun F hF hF0 => ?_)
      simp only [hF, hF0, ite_not, i_push, i_iload, i_lload, i_aload, i_istore, i_astore, i_lstore, i_iinc, i_bin, i_dv, i_un, i_lbin, i_lsh, i_i2l, i_l2i, i_lcmp, i_dup, i_dup2, i_pop, i_if, i_icmp, i_goto, swG, i_sw, i_getf, i_puti, i_putz, i_putr, i_ald, i_lald, i_aald, i_ast, i_last, i_aast, i_alen, i_new, i_newi, i_newl, i_newq, i_oinit, i_ret, i_zret, i_lret, i_vret, catS, tk, rpush, isO, i_m1, i_m2, i_acopy, i_callV, i_callS, KRet, lget, lput, lputL, lcl0, isL, lv0, List.map_cons, List.map_nil, List.length_cons, List.length_nil, List.cons_append, List.nil_append, Nat.reduceAdd, Nat.reduceSub, Nat.reduceLeDiff, List.replicate_succ, List.replicate_zero, List.getElem?_cons_succ, List.getElem?_cons_zero, List.set_cons_succ, List.set_cons_zero, true_and, and_true, if_true, if_false, ↓reduceIte, Nat.le_refl, Value.category, va_up_app, eq_self, stp, Nat.reduceBEq, Bool.or_false, Bool.false_or, Bool.true_or, Bool.or_true, or_true, true_or, bx_uu, implies_true, true_implies, not_true, not_false_eq_true, false_implies, and_self, Nat.reduceLT, Int32.reduceAdd, Int32.reduceSub, Int32.reduceMul, Int32.reduceLE, Int32.reduceLT, Int32.reduceToNatClampNeg, va_rf_some, Bool.false_eq_true, k_X7_metal_0 ca, k_X7_metal_1 ca, k_X7_metal_2 ca, k_X7_metal_3 ca, k_X7_metal_6 ca, k_X7_metal_9 ca, k_X7_metal_10 ca, k_X7_metal_11 ca, k_X7_metal_13 ca, k_X7_metal_16 ca, k_X7_metal_19 ca, k_X7_metal_21 ca, k_X7_metal_22 ca, k_X7_metal_23 ca, k_X7_metal_26 ca, k_X7_metal_27 ca, k_X7_metal_30 ca, k_X7_metal_33 ca, k_X7_metal_34 ca, k_X7_metal_35 ca, k_X7_metal_36 ca, k_X7_metal_37 ca, k_X7_metal_40 ca, k_X7_metal_43 ca, k_X7_metal_44 ca, k_X7_metal_45 ca, k_X7_metal_46 ca, k_X7_metal_47 ca, d1, e0, e1, e3, vx, xx]
      try clear hF hF0 F
      exact k0
def sp_X7_outside (ca : Nat → ClassId) : SPEC := fun av h post => ∃ o b qh qa B x3 x4 x5 lk s oo ss S x, av = [.ref o, .int x] ∧ DJ o b qh qa B ∧ CN ca h o b qh qa B x3 x4 x5 lk s oo ss S ∧ BoS s ∧ actC ca h o b qh qa B x3 x4 x5 s oo ss S post (isIn x (-500) 1500) (aOutside s x) (upd s 8 x)
def k_X7_outside (ca : Nat → ClassId) : Nat → IT := fun pc => lk pc [(0, i_iload 1 1),
  (1, i_callS 1 0 0 0 0 (sp_X7_isWarmth ca) 4),
  (4, i_if (fun x => ¬ x = 0) 10 7),
  (7, i_push (.int (-10000001)) 9),
  (9, i_ret),
  (10, i_aload 0 11),
  (11, i_callV 7 0 0 0 0 0 (sp_X7_recordChange ca) 14),
  (14, i_aload 0 15),
  (15, i_getf 7 0 18),
  (18, i_getf 4 4 21),
  (21, i_istore 2 22),
  (22, i_aload 0 23),
  (23, i_getf 7 0 26),
  (26, i_iload 1 27),
  (27, i_puti 4 4 30),
  (30, i_iload 2 31),
  (31, i_ret)]
set_option maxRecDepth 20000 in
theorem t_X7_outside : Tb k_X7_outside yX7_outside cX7_outside 3 (some .int) 5 0 0 := by
  intro l D ca A p e s m args below meth c post X
  unfold k_X7_outside
  refine snd_cons (snd_iload_n X dX7_outside_0 rfl) ?_
  refine snd_cons (snd_callS X (ok_X7_isWarmth l D ca) rfl rfl w_395 w_396 w_1 w_397 (by decide) (by decide) dX7_outside_1) ?_
  refine snd_cons (snd_if_ne X dX7_outside_4 (by decide)) ?_
  refine snd_cons (snd_ldc X w_284 dX7_outside_7) ?_
  refine snd_cons (snd_ret X dX7_outside_9) ?_
  refine snd_cons (snd_aload_n X dX7_outside_10 rfl) ?_
  refine snd_cons (snd_callV X Fk7 (ok_X7_recordChange l D ca) rfl rfl w_474 w_476 wp_4 w_1 w_477 (by decide) (by decide) dX7_outside_11) ?_
  refine snd_cons (snd_aload_n X dX7_outside_14 rfl) ?_
  refine snd_cons (snd_getf X Fk7 0 (by decide) w_250 dX7_outside_15) ?_
  refine snd_cons (snd_getf X Fk4 4 (by decide) w_132 dX7_outside_18) ?_
  refine snd_cons (snd_istore_n X dX7_outside_21 rfl (by decide)) ?_
  refine snd_cons (snd_aload_n X dX7_outside_22 rfl) ?_
  refine snd_cons (snd_getf X Fk7 0 (by decide) w_250 dX7_outside_23) ?_
  refine snd_cons (snd_iload_n X dX7_outside_26 rfl) ?_
  refine snd_cons (snd_puti X Fk4 4 (by decide) rfl rfl w_132 dX7_outside_27) ?_
  refine snd_cons (snd_iload_n X dX7_outside_30 rfl) ?_
  refine snd_cons (snd_ret X dX7_outside_31) ?_
  exact snd_nil
theorem k_X7_outside_0 (ca : Nat → ClassId) : k_X7_outside ca 0 = i_iload 1 1 := rfl
theorem k_X7_outside_1 (ca : Nat → ClassId) : k_X7_outside ca 1 = i_callS 1 0 0 0 0 (sp_X7_isWarmth ca) 4 := rfl
theorem k_X7_outside_4 (ca : Nat → ClassId) : k_X7_outside ca 4 = i_if (fun x => ¬ x = 0) 10 7 := rfl
theorem k_X7_outside_7 (ca : Nat → ClassId) : k_X7_outside ca 7 = i_push (.int (-10000001)) 9 := rfl
theorem k_X7_outside_9 (ca : Nat → ClassId) : k_X7_outside ca 9 = i_ret := rfl
theorem k_X7_outside_10 (ca : Nat → ClassId) : k_X7_outside ca 10 = i_aload 0 11 := rfl
theorem k_X7_outside_11 (ca : Nat → ClassId) : k_X7_outside ca 11 = i_callV 7 0 0 0 0 0 (sp_X7_recordChange ca) 14 := rfl
theorem k_X7_outside_14 (ca : Nat → ClassId) : k_X7_outside ca 14 = i_aload 0 15 := rfl
theorem k_X7_outside_15 (ca : Nat → ClassId) : k_X7_outside ca 15 = i_getf 7 0 18 := rfl
theorem k_X7_outside_18 (ca : Nat → ClassId) : k_X7_outside ca 18 = i_getf 4 4 21 := rfl
theorem k_X7_outside_21 (ca : Nat → ClassId) : k_X7_outside ca 21 = i_istore 2 22 := rfl
theorem k_X7_outside_22 (ca : Nat → ClassId) : k_X7_outside ca 22 = i_aload 0 23 := rfl
theorem k_X7_outside_23 (ca : Nat → ClassId) : k_X7_outside ca 23 = i_getf 7 0 26 := rfl
theorem k_X7_outside_26 (ca : Nat → ClassId) : k_X7_outside ca 26 = i_iload 1 27 := rfl
theorem k_X7_outside_27 (ca : Nat → ClassId) : k_X7_outside ca 27 = i_puti 4 4 30 := rfl
theorem k_X7_outside_30 (ca : Nat → ClassId) : k_X7_outside ca 30 = i_iload 2 31 := rfl
theorem k_X7_outside_31 (ca : Nat → ClassId) : k_X7_outside ca 31 = i_ret := rfl
set_option maxHeartbeats 4000000 in
set_option maxRecDepth 20000 in
theorem ok_X7_outside (l : Launch) (D : va_G) (ca : Nat → ClassId) : OkAll l D ca yX7_outside cX7_outside 3 (some .int) 5 0 0 (sp_X7_outside ca) := by
  intro av h post hs
  obtain ⟨o, b, qh, qa, B, x3, x4, x5, lk, s, oo, ss, S, x, rfl, J, hC, hbo, hs⟩ := hs
  have hb := J.1
  unfold aOutside at hs
  have c0 := hC.1
  refine okM_of t_X7_outside (by decide +kernel) (c1_ref (c1_int c1_nil)) (Nat.le_of_ble_eq_true rfl) ?_
  intro K go
  cases q1 : isIn x (-500) 1500 with
  | false =>
    rw [q1, if_neg (by decide)] at hs
    have k0 := hs.1 rfl
    refine goN go (stp []) 160 _ _ _ _ _ _ (fun F hF hF0 => ?_)
    simp only [hF, hF0, ite_not, i_push, i_iload, i_lload, i_aload, i_istore, i_astore, i_lstore, i_iinc, i_bin, i_dv, i_un, i_lbin, i_lsh, i_i2l, i_l2i, i_lcmp, i_dup, i_dup2, i_pop, i_if, i_icmp, i_goto, swG, i_sw, i_getf, i_puti, i_putz, i_putr, i_ald, i_lald, i_aald, i_ast, i_last, i_aast, i_alen, i_new, i_newi, i_newl, i_newq, i_oinit, i_ret, i_zret, i_lret, i_vret, catS, tk, rpush, isO, i_m1, i_m2, i_acopy, i_callV, i_callS, KRet, lget, lput, lputL, lcl0, isL, lv0, List.map_cons, List.map_nil, List.length_cons, List.length_nil, List.cons_append, List.nil_append, Nat.reduceAdd, Nat.reduceSub, Nat.reduceLeDiff, List.replicate_succ, List.replicate_zero, List.getElem?_cons_succ, List.getElem?_cons_zero, List.set_cons_succ, List.set_cons_zero, true_and, and_true, if_true, if_false, ↓reduceIte, Nat.le_refl, Value.category, va_up_app, eq_self, stp, Nat.reduceBEq, Bool.or_false, Bool.false_or, Bool.true_or, Bool.or_true, or_true, true_or, bx_uu, implies_true, true_implies, not_true, not_false_eq_true, false_implies, and_self, Nat.reduceLT, Int32.reduceAdd, Int32.reduceSub, Int32.reduceMul, Int32.reduceLE, Int32.reduceLT, Int32.reduceToNatClampNeg, va_rf_some, Bool.false_eq_true, k_X7_outside_0 ca, k_X7_outside_1 ca, k_X7_outside_4 ca, k_X7_outside_7 ca, k_X7_outside_9 ca, k_X7_outside_10 ca, k_X7_outside_11 ca, k_X7_outside_14 ca, k_X7_outside_15 ca, k_X7_outside_18 ca, k_X7_outside_21 ca, k_X7_outside_22 ca, k_X7_outside_23 ca, k_X7_outside_26 ca, k_X7_outside_27 ca, k_X7_outside_30 ca, k_X7_outside_31 ca, sp_X7_isWarmth, q1, b2i_f]
    try clear hF hF0 F
    exact k0
  | true =>
    rw [q1, if_pos rfl] at hs
    refine goN go (stp [14]) 160 _ _ _ _ _ _ (fun F hF hF0 => ?_)
    simp only [hF, hF0, ite_not, i_push, i_iload, i_lload, i_aload, i_istore, i_astore, i_lstore, i_iinc, i_bin, i_dv, i_un, i_lbin, i_lsh, i_i2l, i_l2i, i_lcmp, i_dup, i_dup2, i_pop, i_if, i_icmp, i_goto, swG, i_sw, i_getf, i_puti, i_putz, i_putr, i_ald, i_lald, i_aald, i_ast, i_last, i_aast, i_alen, i_new, i_newi, i_newl, i_newq, i_oinit, i_ret, i_zret, i_lret, i_vret, catS, tk, rpush, isO, i_m1, i_m2, i_acopy, i_callV, i_callS, KRet, lget, lput, lputL, lcl0, isL, lv0, List.map_cons, List.map_nil, List.length_cons, List.length_nil, List.cons_append, List.nil_append, Nat.reduceAdd, Nat.reduceSub, Nat.reduceLeDiff, List.replicate_succ, List.replicate_zero, List.getElem?_cons_succ, List.getElem?_cons_zero, List.set_cons_succ, List.set_cons_zero, true_and, and_true, if_true, if_false, ↓reduceIte, Nat.le_refl, Value.category, va_up_app, eq_self, stp, Nat.reduceBEq, Bool.or_false, Bool.false_or, Bool.true_or, Bool.or_true, or_true, true_or, bx_uu, implies_true, true_implies, not_true, not_false_eq_true, false_implies, and_self, Nat.reduceLT, Int32.reduceAdd, Int32.reduceSub, Int32.reduceMul, Int32.reduceLE, Int32.reduceLT, Int32.reduceToNatClampNeg, va_rf_some, Bool.false_eq_true, k_X7_outside_0 ca, k_X7_outside_1 ca, k_X7_outside_4 ca, k_X7_outside_7 ca, k_X7_outside_9 ca, k_X7_outside_10 ca, k_X7_outside_11 ca, k_X7_outside_14 ca, k_X7_outside_15 ca, k_X7_outside_18 ca, k_X7_outside_21 ca, k_X7_outside_22 ca, k_X7_outside_23 ca, k_X7_outside_26 ca, k_X7_outside_27 ca, k_X7_outside_30 ca, k_X7_outside_31 ca, sp_X7_isWarmth, q1, b2i_t, one0, c0]
    try clear hF hF0 F
    refine rec_of J hC hbo (fun h1 hC1 hm1 => ?_)
    obtain ⟨d1, d2, -⟩ := id hC1
    obtain ⟨e0, -⟩ := d2.c
    have hS2 := SAt_obj hb d2 (mk2 x (s 9))
    have hS3 : SAt ca (va_up h1 (b 0) (some (eState b (ovr s 8 2 (mk2 x (s 9)))))) b (upd s 8 x) := SAt_cong hS2 (fun j hj => by
      rw [upd_app]
      by_cases z : j = 8
      · rw [z, if_pos rfl]; rfl
      · by_cases z9 : j = 9
        · rw [z9, if_neg (by decide)]; rfl
        · rw [ovr_out (by omega), if_neg z])
    have k0 := hs.2 rfl _ (hC1.now J hS3 (Same_up (by decide) _)) (hm1.tr (SmC.now (Same_up (by decide) _)))
    have j5 := J.2.2.2.2.1 0 (by decide)
    refine goN go (stp []) 160 _ _ _ _ _ _ (fun F hF hF0 => ?_)
    simp only [hF, hF0, ite_not, i_push, i_iload, i_lload, i_aload, i_istore, i_astore, i_lstore, i_iinc, i_bin, i_dv, i_un, i_lbin, i_lsh, i_i2l, i_l2i, i_lcmp, i_dup, i_dup2, i_pop, i_if, i_icmp, i_goto, swG, i_sw, i_getf, i_puti, i_putz, i_putr, i_ald, i_lald, i_aald, i_ast, i_last, i_aast, i_alen, i_new, i_newi, i_newl, i_newq, i_oinit, i_ret, i_zret, i_lret, i_vret, catS, tk, rpush, isO, i_m1, i_m2, i_acopy, i_callV, i_callS, KRet, lget, lput, lputL, lcl0, isL, lv0, List.map_cons, List.map_nil, List.length_cons, List.length_nil, List.cons_append, List.nil_append, Nat.reduceAdd, Nat.reduceSub, Nat.reduceLeDiff, List.replicate_succ, List.replicate_zero, List.getElem?_cons_succ, List.getElem?_cons_zero, List.set_cons_succ, List.set_cons_zero, true_and, and_true, if_true, if_false, ↓reduceIte, Nat.le_refl, Value.category, va_up_app, eq_self, stp, Nat.reduceBEq, Bool.or_false, Bool.false_or, Bool.true_or, Bool.or_true, or_true, true_or, bx_uu, implies_true, true_implies, not_true, not_false_eq_true, false_implies, and_self, Nat.reduceLT, Int32.reduceAdd, Int32.reduceSub, Int32.reduceMul, Int32.reduceLE, Int32.reduceLT, Int32.reduceToNatClampNeg, va_rf_some, Bool.false_eq_true, k_X7_outside_0 ca, k_X7_outside_1 ca, k_X7_outside_4 ca, k_X7_outside_7 ca, k_X7_outside_9 ca, k_X7_outside_10 ca, k_X7_outside_11 ca, k_X7_outside_14 ca, k_X7_outside_15 ca, k_X7_outside_18 ca, k_X7_outside_21 ca, k_X7_outside_22 ca, k_X7_outside_23 ca, k_X7_outside_26 ca, k_X7_outside_27 ca, k_X7_outside_30 ca, k_X7_outside_31 ca, d1, e0, j5]
    try clear hF hF0 F
    exact k0
def sp_X7_warm (ca : Nat → ClassId) : SPEC := fun av h post => ∃ o b qh qa B x3 x4 x5 lk s oo ss S x y, av = [.ref o, .int x, .int y] ∧ DJ o b qh qa B ∧ CN ca h o b qh qa B x3 x4 x5 lk s oo ss S ∧ BoS s ∧ actC ca h o b qh qa B x3 x4 x5 s oo ss S post (vWarm x y) (aWarm s x y) (upd s (106 + 7 * x.toNatClampNeg) y)
def k_X7_warm (ca : Nat → ClassId) : Nat → IT := fun pc => lk pc [(0, i_iload 1 1),
  (1, i_callS 1 0 0 0 0 (sp_X7_isRoom ca) 4),
  (4, i_if (fun x => x = 0) 14 7),
  (7, i_iload 2 8),
  (8, i_callS 1 0 0 0 0 (sp_X7_isWarmth ca) 11),
  (11, i_if (fun x => ¬ x = 0) 17 14),
  (14, i_push (.int (-10000001)) 16),
  (16, i_ret),
  (17, i_aload 0 18),
  (18, i_callV 7 0 0 0 0 0 (sp_X7_recordChange ca) 21),
  (21, i_aload 0 22),
  (22, i_getf 7 0 25),
  (25, i_getf 4 3 28),
  (28, i_iload 1 29),
  (29, i_aald (ca 4) 30),
  (30, i_astore 3 31),
  (31, i_aload 3 32),
  (32, i_getf 2 0 35),
  (35, i_istore 4 37),
  (37, i_aload 3 38),
  (38, i_iload 2 39),
  (39, i_puti 2 0 42),
  (42, i_iload 4 44),
  (44, i_ret)]
set_option maxRecDepth 20000 in
theorem t_X7_warm : Tb k_X7_warm yX7_warm cX7_warm 5 (some .int) 5 0 0 := by
  intro l D ca A p e s m args below meth c post X
  unfold k_X7_warm
  refine snd_cons (snd_iload_n X dX7_warm_0 rfl) ?_
  refine snd_cons (snd_callS X (ok_X7_isRoom l D ca) rfl rfl w_327 w_328 w_1 w_329 (by decide) (by decide) dX7_warm_1) ?_
  refine snd_cons (snd_if_eq X dX7_warm_4 (by decide)) ?_
  refine snd_cons (snd_iload_n X dX7_warm_7 rfl) ?_
  refine snd_cons (snd_callS X (ok_X7_isWarmth l D ca) rfl rfl w_395 w_396 w_1 w_397 (by decide) (by decide) dX7_warm_8) ?_
  refine snd_cons (snd_if_ne X dX7_warm_11 (by decide)) ?_
  refine snd_cons (snd_ldc X w_284 dX7_warm_14) ?_
  refine snd_cons (snd_ret X dX7_warm_16) ?_
  refine snd_cons (snd_aload_n X dX7_warm_17 rfl) ?_
  refine snd_cons (snd_callV X Fk7 (ok_X7_recordChange l D ca) rfl rfl w_474 w_476 wp_4 w_1 w_477 (by decide) (by decide) dX7_warm_18) ?_
  refine snd_cons (snd_aload_n X dX7_warm_21 rfl) ?_
  refine snd_cons (snd_getf X Fk7 0 (by decide) w_250 dX7_warm_22) ?_
  refine snd_cons (snd_getf X Fk4 3 (by decide) w_130 dX7_warm_25) ?_
  refine snd_cons (snd_iload_n X dX7_warm_28 rfl) ?_
  refine snd_cons (snd_aaload X 4 rfl dX7_warm_29) ?_
  refine snd_cons (snd_astore_n X dX7_warm_30 rfl (by decide)) ?_
  refine snd_cons (snd_aload_n X dX7_warm_31 rfl) ?_
  refine snd_cons (snd_getf X Fk2 0 (by decide) w_91 dX7_warm_32) ?_
  refine snd_cons (snd_istore X dX7_warm_35 (by decide)) ?_
  refine snd_cons (snd_aload_n X dX7_warm_37 rfl) ?_
  refine snd_cons (snd_iload_n X dX7_warm_38 rfl) ?_
  refine snd_cons (snd_puti X Fk2 0 (by decide) rfl rfl w_91 dX7_warm_39) ?_
  refine snd_cons (snd_iload X dX7_warm_42) ?_
  refine snd_cons (snd_ret X dX7_warm_44) ?_
  exact snd_nil
theorem k_X7_warm_0 (ca : Nat → ClassId) : k_X7_warm ca 0 = i_iload 1 1 := rfl
theorem k_X7_warm_1 (ca : Nat → ClassId) : k_X7_warm ca 1 = i_callS 1 0 0 0 0 (sp_X7_isRoom ca) 4 := rfl
theorem k_X7_warm_4 (ca : Nat → ClassId) : k_X7_warm ca 4 = i_if (fun x => x = 0) 14 7 := rfl
theorem k_X7_warm_7 (ca : Nat → ClassId) : k_X7_warm ca 7 = i_iload 2 8 := rfl
theorem k_X7_warm_8 (ca : Nat → ClassId) : k_X7_warm ca 8 = i_callS 1 0 0 0 0 (sp_X7_isWarmth ca) 11 := rfl
theorem k_X7_warm_11 (ca : Nat → ClassId) : k_X7_warm ca 11 = i_if (fun x => ¬ x = 0) 17 14 := rfl
theorem k_X7_warm_14 (ca : Nat → ClassId) : k_X7_warm ca 14 = i_push (.int (-10000001)) 16 := rfl
theorem k_X7_warm_16 (ca : Nat → ClassId) : k_X7_warm ca 16 = i_ret := rfl
theorem k_X7_warm_17 (ca : Nat → ClassId) : k_X7_warm ca 17 = i_aload 0 18 := rfl
theorem k_X7_warm_18 (ca : Nat → ClassId) : k_X7_warm ca 18 = i_callV 7 0 0 0 0 0 (sp_X7_recordChange ca) 21 := rfl
theorem k_X7_warm_21 (ca : Nat → ClassId) : k_X7_warm ca 21 = i_aload 0 22 := rfl
theorem k_X7_warm_22 (ca : Nat → ClassId) : k_X7_warm ca 22 = i_getf 7 0 25 := rfl
theorem k_X7_warm_25 (ca : Nat → ClassId) : k_X7_warm ca 25 = i_getf 4 3 28 := rfl
theorem k_X7_warm_28 (ca : Nat → ClassId) : k_X7_warm ca 28 = i_iload 1 29 := rfl
theorem k_X7_warm_29 (ca : Nat → ClassId) : k_X7_warm ca 29 = i_aald (ca 4) 30 := rfl
theorem k_X7_warm_30 (ca : Nat → ClassId) : k_X7_warm ca 30 = i_astore 3 31 := rfl
theorem k_X7_warm_31 (ca : Nat → ClassId) : k_X7_warm ca 31 = i_aload 3 32 := rfl
theorem k_X7_warm_32 (ca : Nat → ClassId) : k_X7_warm ca 32 = i_getf 2 0 35 := rfl
theorem k_X7_warm_35 (ca : Nat → ClassId) : k_X7_warm ca 35 = i_istore 4 37 := rfl
theorem k_X7_warm_37 (ca : Nat → ClassId) : k_X7_warm ca 37 = i_aload 3 38 := rfl
theorem k_X7_warm_38 (ca : Nat → ClassId) : k_X7_warm ca 38 = i_iload 2 39 := rfl
theorem k_X7_warm_39 (ca : Nat → ClassId) : k_X7_warm ca 39 = i_puti 2 0 42 := rfl
theorem k_X7_warm_42 (ca : Nat → ClassId) : k_X7_warm ca 42 = i_iload 4 44 := rfl
theorem k_X7_warm_44 (ca : Nat → ClassId) : k_X7_warm ca 44 = i_ret := rfl
set_option maxHeartbeats 4000000 in
set_option maxRecDepth 20000 in
theorem ok_X7_warm (l : Launch) (D : va_G) (ca : Nat → ClassId) : OkAll l D ca yX7_warm cX7_warm 5 (some .int) 5 0 0 (sp_X7_warm ca) := by
  intro av h post hs
  obtain ⟨o, b, qh, qa, B, x3, x4, x5, lk, s, oo, ss, S, x, y, rfl, J, hC, hbo, hs⟩ := hs
  have hb := J.1
  unfold aWarm vWarm at hs
  have c0 := hC.1
  refine okM_of t_X7_warm (by decide +kernel) (c1_ref (c1_int (c1_int c1_nil))) (Nat.le_of_ble_eq_true rfl) ?_
  intro K go
  cases q1 : isIn x 0 2 with
  | false =>
    rw [q1, if_neg (by decide)] at hs
    have k0 := hs.1 rfl
    refine goN go (stp []) 160 _ _ _ _ _ _ (fun F hF hF0 => ?_)
    simp only [hF, hF0, ite_not, i_push, i_iload, i_lload, i_aload, i_istore, i_astore, i_lstore, i_iinc, i_bin, i_dv, i_un, i_lbin, i_lsh, i_i2l, i_l2i, i_lcmp, i_dup, i_dup2, i_pop, i_if, i_icmp, i_goto, swG, i_sw, i_getf, i_puti, i_putz, i_putr, i_ald, i_lald, i_aald, i_ast, i_last, i_aast, i_alen, i_new, i_newi, i_newl, i_newq, i_oinit, i_ret, i_zret, i_lret, i_vret, catS, tk, rpush, isO, i_m1, i_m2, i_acopy, i_callV, i_callS, KRet, lget, lput, lputL, lcl0, isL, lv0, List.map_cons, List.map_nil, List.length_cons, List.length_nil, List.cons_append, List.nil_append, Nat.reduceAdd, Nat.reduceSub, Nat.reduceLeDiff, List.replicate_succ, List.replicate_zero, List.getElem?_cons_succ, List.getElem?_cons_zero, List.set_cons_succ, List.set_cons_zero, true_and, and_true, if_true, if_false, ↓reduceIte, Nat.le_refl, Value.category, va_up_app, eq_self, stp, Nat.reduceBEq, Bool.or_false, Bool.false_or, Bool.true_or, Bool.or_true, or_true, true_or, bx_uu, implies_true, true_implies, not_true, not_false_eq_true, false_implies, and_self, Nat.reduceLT, Int32.reduceAdd, Int32.reduceSub, Int32.reduceMul, Int32.reduceLE, Int32.reduceLT, Int32.reduceToNatClampNeg, va_rf_some, Bool.false_eq_true, k_X7_warm_0 ca, k_X7_warm_1 ca, k_X7_warm_4 ca, k_X7_warm_7 ca, k_X7_warm_8 ca, k_X7_warm_11 ca, k_X7_warm_14 ca, k_X7_warm_16 ca, k_X7_warm_17 ca, k_X7_warm_18 ca, k_X7_warm_21 ca, k_X7_warm_22 ca, k_X7_warm_25 ca, k_X7_warm_28 ca, k_X7_warm_29 ca, k_X7_warm_30 ca, k_X7_warm_31 ca, k_X7_warm_32 ca, k_X7_warm_35 ca, k_X7_warm_37 ca, k_X7_warm_38 ca, k_X7_warm_39 ca, k_X7_warm_42 ca, k_X7_warm_44 ca, sp_X7_isRoom, q1, b2i_f]
    try clear hF hF0 F
    exact k0
  | true =>
    rw [q1, if_pos rfl] at hs
    cases q2 : isIn y (-500) 1500 with
    | false =>
      rw [q2, if_neg (by decide)] at hs
      have k0 := hs.1 rfl
      refine goN go (stp []) 160 _ _ _ _ _ _ (fun F hF hF0 => ?_)
      simp only [hF, hF0, ite_not, i_push, i_iload, i_lload, i_aload, i_istore, i_astore, i_lstore, i_iinc, i_bin, i_dv, i_un, i_lbin, i_lsh, i_i2l, i_l2i, i_lcmp, i_dup, i_dup2, i_pop, i_if, i_icmp, i_goto, swG, i_sw, i_getf, i_puti, i_putz, i_putr, i_ald, i_lald, i_aald, i_ast, i_last, i_aast, i_alen, i_new, i_newi, i_newl, i_newq, i_oinit, i_ret, i_zret, i_lret, i_vret, catS, tk, rpush, isO, i_m1, i_m2, i_acopy, i_callV, i_callS, KRet, lget, lput, lputL, lcl0, isL, lv0, List.map_cons, List.map_nil, List.length_cons, List.length_nil, List.cons_append, List.nil_append, Nat.reduceAdd, Nat.reduceSub, Nat.reduceLeDiff, List.replicate_succ, List.replicate_zero, List.getElem?_cons_succ, List.getElem?_cons_zero, List.set_cons_succ, List.set_cons_zero, true_and, and_true, if_true, if_false, ↓reduceIte, Nat.le_refl, Value.category, va_up_app, eq_self, stp, Nat.reduceBEq, Bool.or_false, Bool.false_or, Bool.true_or, Bool.or_true, or_true, true_or, bx_uu, implies_true, true_implies, not_true, not_false_eq_true, false_implies, and_self, Nat.reduceLT, Int32.reduceAdd, Int32.reduceSub, Int32.reduceMul, Int32.reduceLE, Int32.reduceLT, Int32.reduceToNatClampNeg, va_rf_some, Bool.false_eq_true, k_X7_warm_0 ca, k_X7_warm_1 ca, k_X7_warm_4 ca, k_X7_warm_7 ca, k_X7_warm_8 ca, k_X7_warm_11 ca, k_X7_warm_14 ca, k_X7_warm_16 ca, k_X7_warm_17 ca, k_X7_warm_18 ca, k_X7_warm_21 ca, k_X7_warm_22 ca, k_X7_warm_25 ca, k_X7_warm_28 ca, k_X7_warm_29 ca, k_X7_warm_30 ca, k_X7_warm_31 ca, k_X7_warm_32 ca, k_X7_warm_35 ca, k_X7_warm_37 ca, k_X7_warm_38 ca, k_X7_warm_39 ca, k_X7_warm_42 ca, k_X7_warm_44 ca, sp_X7_isRoom, sp_X7_isWarmth, q1, q2, b2i_f, b2i_t, one0]
      try clear hF hF0 F
      exact k0
    | true =>
      rw [q2, if_pos rfl] at hs
      obtain ⟨X, hX, rfl⟩ := isIn0 (B := 2) rfl q1
      have xx : (nI X).toNatClampNeg = X := tn127 (by omega)
      have vx := vp3 (k := X) (by omega)
      rw [xx] at hs
      refine goN go (stp [21]) 160 _ _ _ _ _ _ (fun F hF hF0 => ?_)
      simp only [hF, hF0, ite_not, i_push, i_iload, i_lload, i_aload, i_istore, i_astore, i_lstore, i_iinc, i_bin, i_dv, i_un, i_lbin, i_lsh, i_i2l, i_l2i, i_lcmp, i_dup, i_dup2, i_pop, i_if, i_icmp, i_goto, swG, i_sw, i_getf, i_puti, i_putz, i_putr, i_ald, i_lald, i_aald, i_ast, i_last, i_aast, i_alen, i_new, i_newi, i_newl, i_newq, i_oinit, i_ret, i_zret, i_lret, i_vret, catS, tk, rpush, isO, i_m1, i_m2, i_acopy, i_callV, i_callS, KRet, lget, lput, lputL, lcl0, isL, lv0, List.map_cons, List.map_nil, List.length_cons, List.length_nil, List.cons_append, List.nil_append, Nat.reduceAdd, Nat.reduceSub, Nat.reduceLeDiff, List.replicate_succ, List.replicate_zero, List.getElem?_cons_succ, List.getElem?_cons_zero, List.set_cons_succ, List.set_cons_zero, true_and, and_true, if_true, if_false, ↓reduceIte, Nat.le_refl, Value.category, va_up_app, eq_self, stp, Nat.reduceBEq, Bool.or_false, Bool.false_or, Bool.true_or, Bool.or_true, or_true, true_or, bx_uu, implies_true, true_implies, not_true, not_false_eq_true, false_implies, and_self, Nat.reduceLT, Int32.reduceAdd, Int32.reduceSub, Int32.reduceMul, Int32.reduceLE, Int32.reduceLT, Int32.reduceToNatClampNeg, va_rf_some, Bool.false_eq_true, k_X7_warm_0 ca, k_X7_warm_1 ca, k_X7_warm_4 ca, k_X7_warm_7 ca, k_X7_warm_8 ca, k_X7_warm_11 ca, k_X7_warm_14 ca, k_X7_warm_16 ca, k_X7_warm_17 ca, k_X7_warm_18 ca, k_X7_warm_21 ca, k_X7_warm_22 ca, k_X7_warm_25 ca, k_X7_warm_28 ca, k_X7_warm_29 ca, k_X7_warm_30 ca, k_X7_warm_31 ca, k_X7_warm_32 ca, k_X7_warm_35 ca, k_X7_warm_37 ca, k_X7_warm_38 ca, k_X7_warm_39 ca, k_X7_warm_42 ca, k_X7_warm_44 ca, sp_X7_isRoom, sp_X7_isWarmth, q1, q2, b2i_t, one0, c0]
      try clear hF hF0 F
      refine rec_of J hC hbo (fun h1 hC1 hm1 => ?_)
      obtain ⟨d1, d2, -⟩ := id hC1
      obtain ⟨e0, -, ⟨f4, e4, e5⟩, -⟩ := d2.c
      have e6 := e5 X (by omega)
      have e7 := d2.rm (k := X) (by omega)
      have hS2 := d2.sr hb (k := X) (by omega) (mk7 y (s (106 + 7 * X + 1)) (s (106 + 7 * X + 2)) (s (106 + 7 * X + 3)) (s (106 + 7 * X + 4)) (s (106 + 7 * X + 5)) (s (106 + 7 * X + 6)))
      have hS3 := SAt_cong (s' := upd s (106 + 7 * X) y) hS2 (fun j hj => by
        rw [upd_app]
        by_cases z : 106 + 7 * X ≤ j ∧ j < 106 + 7 * X + 7
        · have e : j = 106 + 7 * X + (j - (106 + 7 * X)) := by omega
          rw [e, ovr_in (by omega)]
          have : j - (106 + 7 * X) = 0 ∨ j - (106 + 7 * X) = 1 ∨ j - (106 + 7 * X) = 2 ∨ j - (106 + 7 * X) = 3 ∨ j - (106 + 7 * X) = 4 ∨ j - (106 + 7 * X) = 5 ∨ j - (106 + 7 * X) = 6 := by omega
          rcases this with w | w | w | w | w | w | w <;> rw [w]
          · rw [if_pos (by omega)]; rfl
          all_goals rw [if_neg (by omega)]; rfl
        · rw [ovr_out (by omega), if_neg (by omega)])
      have k0 := hs.2 rfl _ (hC1.now J hS3 (Same_up (by omega) _)) (hm1.tr (SmC.now (Same_up (by omega) _)))
      refine goN go (stp []) 160 _ _ _ _ _ _ (fun F hF hF0 => ?_)
      simp only [hF, hF0, ite_not, i_push, i_iload, i_lload, i_aload, i_istore, i_astore, i_lstore, i_iinc, i_bin, i_dv, i_un, i_lbin, i_lsh, i_i2l, i_l2i, i_lcmp, i_dup, i_dup2, i_pop, i_if, i_icmp, i_goto, swG, i_sw, i_getf, i_puti, i_putz, i_putr, i_ald, i_lald, i_aald, i_ast, i_last, i_aast, i_alen, i_new, i_newi, i_newl, i_newq, i_oinit, i_ret, i_zret, i_lret, i_vret, catS, tk, rpush, isO, i_m1, i_m2, i_acopy, i_callV, i_callS, KRet, lget, lput, lputL, lcl0, isL, lv0, List.map_cons, List.map_nil, List.length_cons, List.length_nil, List.cons_append, List.nil_append, Nat.reduceAdd, Nat.reduceSub, Nat.reduceLeDiff, List.replicate_succ, List.replicate_zero, List.getElem?_cons_succ, List.getElem?_cons_zero, List.set_cons_succ, List.set_cons_zero, true_and, and_true, if_true, if_false, ↓reduceIte, Nat.le_refl, Value.category, va_up_app, eq_self, stp, Nat.reduceBEq, Bool.or_false, Bool.false_or, Bool.true_or, Bool.or_true, or_true, true_or, bx_uu, implies_true, true_implies, not_true, not_false_eq_true, false_implies, and_self, Nat.reduceLT, Int32.reduceAdd, Int32.reduceSub, Int32.reduceMul, Int32.reduceLE, Int32.reduceLT, Int32.reduceToNatClampNeg, va_rf_some, Bool.false_eq_true, k_X7_warm_0 ca, k_X7_warm_1 ca, k_X7_warm_4 ca, k_X7_warm_7 ca, k_X7_warm_8 ca, k_X7_warm_11 ca, k_X7_warm_14 ca, k_X7_warm_16 ca, k_X7_warm_17 ca, k_X7_warm_18 ca, k_X7_warm_21 ca, k_X7_warm_22 ca, k_X7_warm_25 ca, k_X7_warm_28 ca, k_X7_warm_29 ca, k_X7_warm_30 ca, k_X7_warm_31 ca, k_X7_warm_32 ca, k_X7_warm_35 ca, k_X7_warm_37 ca, k_X7_warm_38 ca, k_X7_warm_39 ca, k_X7_warm_42 ca, k_X7_warm_44 ca, d1, e0, e4, e6, e7, vx, xx]
      try clear hF hF0 F
      exact k0
def sp_X7_set (ca : Nat → ClassId) : SPEC := fun av h post => ∃ o b qh qa B x3 x4 x5 lk s oo ss S x y, av = [.ref o, .int x, .int y] ∧ DJ o b qh qa B ∧ CN ca h o b qh qa B x3 x4 x5 lk s oo ss S ∧ BoS s ∧ actC ca h o b qh qa B x3 x4 x5 s oo ss S post (isSet x y) (aSet s x y) (upd s (6 + x.toNatClampNeg) y)
def k_X7_set (ca : Nat → ClassId) : Nat → IT := fun pc => lk pc [(0, i_iload 1 1),
  (1, i_iload 2 2),
  (2, i_callS 2 0 0 0 0 (sp_X7_isSetting ca) 5),
  (5, i_if (fun x => ¬ x = 0) 11 8),
  (8, i_push (.int (-10000001)) 10),
  (10, i_ret),
  (11, i_aload 0 12),
  (12, i_callV 7 0 0 0 0 0 (sp_X7_recordChange ca) 15),
  (15, i_aload 0 16),
  (16, i_getf 7 0 19),
  (19, i_getf 4 1 22),
  (22, i_iload 1 23),
  (23, i_ald (ca 0) 24),
  (24, i_istore 3 25),
  (25, i_aload 0 26),
  (26, i_getf 7 0 29),
  (29, i_getf 4 1 32),
  (32, i_iload 1 33),
  (33, i_iload 2 34),
  (34, i_ast (fun x => x) (ca 0) 35),
  (35, i_iload 3 36),
  (36, i_ret)]
set_option maxRecDepth 20000 in
theorem t_X7_set : Tb k_X7_set yX7_set cX7_set 4 (some .int) 5 0 0 := by
  intro l D ca A p e s m args below meth c post X
  unfold k_X7_set
  refine snd_cons (snd_iload_n X dX7_set_0 rfl) ?_
  refine snd_cons (snd_iload_n X dX7_set_1 rfl) ?_
  refine snd_cons (snd_callS X (ok_X7_isSetting l D ca) rfl rfl w_532 w_533 w_1 w_534 (by decide) (by decide) dX7_set_2) ?_
  refine snd_cons (snd_if_ne X dX7_set_5 (by decide)) ?_
  refine snd_cons (snd_ldc X w_284 dX7_set_8) ?_
  refine snd_cons (snd_ret X dX7_set_10) ?_
  refine snd_cons (snd_aload_n X dX7_set_11 rfl) ?_
  refine snd_cons (snd_callV X Fk7 (ok_X7_recordChange l D ca) rfl rfl w_474 w_476 wp_4 w_1 w_477 (by decide) (by decide) dX7_set_12) ?_
  refine snd_cons (snd_aload_n X dX7_set_15 rfl) ?_
  refine snd_cons (snd_getf X Fk7 0 (by decide) w_250 dX7_set_16) ?_
  refine snd_cons (snd_getf X Fk4 1 (by decide) w_126 dX7_set_19) ?_
  refine snd_cons (snd_iload_n X dX7_set_22 rfl) ?_
  refine snd_cons (snd_iaload X dX7_set_23) ?_
  refine snd_cons (snd_istore_n X dX7_set_24 rfl (by decide)) ?_
  refine snd_cons (snd_aload_n X dX7_set_25 rfl) ?_
  refine snd_cons (snd_getf X Fk7 0 (by decide) w_250 dX7_set_26) ?_
  refine snd_cons (snd_getf X Fk4 1 (by decide) w_126 dX7_set_29) ?_
  refine snd_cons (snd_iload_n X dX7_set_32 rfl) ?_
  refine snd_cons (snd_iload_n X dX7_set_33 rfl) ?_
  refine snd_cons (snd_iastore X dX7_set_34) ?_
  refine snd_cons (snd_iload_n X dX7_set_35 rfl) ?_
  refine snd_cons (snd_ret X dX7_set_36) ?_
  exact snd_nil
theorem k_X7_set_0 (ca : Nat → ClassId) : k_X7_set ca 0 = i_iload 1 1 := rfl
theorem k_X7_set_1 (ca : Nat → ClassId) : k_X7_set ca 1 = i_iload 2 2 := rfl
theorem k_X7_set_2 (ca : Nat → ClassId) : k_X7_set ca 2 = i_callS 2 0 0 0 0 (sp_X7_isSetting ca) 5 := rfl
theorem k_X7_set_5 (ca : Nat → ClassId) : k_X7_set ca 5 = i_if (fun x => ¬ x = 0) 11 8 := rfl
theorem k_X7_set_8 (ca : Nat → ClassId) : k_X7_set ca 8 = i_push (.int (-10000001)) 10 := rfl
theorem k_X7_set_10 (ca : Nat → ClassId) : k_X7_set ca 10 = i_ret := rfl
theorem k_X7_set_11 (ca : Nat → ClassId) : k_X7_set ca 11 = i_aload 0 12 := rfl
theorem k_X7_set_12 (ca : Nat → ClassId) : k_X7_set ca 12 = i_callV 7 0 0 0 0 0 (sp_X7_recordChange ca) 15 := rfl
theorem k_X7_set_15 (ca : Nat → ClassId) : k_X7_set ca 15 = i_aload 0 16 := rfl
theorem k_X7_set_16 (ca : Nat → ClassId) : k_X7_set ca 16 = i_getf 7 0 19 := rfl
theorem k_X7_set_19 (ca : Nat → ClassId) : k_X7_set ca 19 = i_getf 4 1 22 := rfl
theorem k_X7_set_22 (ca : Nat → ClassId) : k_X7_set ca 22 = i_iload 1 23 := rfl
theorem k_X7_set_23 (ca : Nat → ClassId) : k_X7_set ca 23 = i_ald (ca 0) 24 := rfl
theorem k_X7_set_24 (ca : Nat → ClassId) : k_X7_set ca 24 = i_istore 3 25 := rfl
theorem k_X7_set_25 (ca : Nat → ClassId) : k_X7_set ca 25 = i_aload 0 26 := rfl
theorem k_X7_set_26 (ca : Nat → ClassId) : k_X7_set ca 26 = i_getf 7 0 29 := rfl
theorem k_X7_set_29 (ca : Nat → ClassId) : k_X7_set ca 29 = i_getf 4 1 32 := rfl
theorem k_X7_set_32 (ca : Nat → ClassId) : k_X7_set ca 32 = i_iload 1 33 := rfl
theorem k_X7_set_33 (ca : Nat → ClassId) : k_X7_set ca 33 = i_iload 2 34 := rfl
theorem k_X7_set_34 (ca : Nat → ClassId) : k_X7_set ca 34 = i_ast (fun x => x) (ca 0) 35 := rfl
theorem k_X7_set_35 (ca : Nat → ClassId) : k_X7_set ca 35 = i_iload 3 36 := rfl
theorem k_X7_set_36 (ca : Nat → ClassId) : k_X7_set ca 36 = i_ret := rfl
set_option maxHeartbeats 4000000 in
set_option maxRecDepth 20000 in
theorem ok_X7_set (l : Launch) (D : va_G) (ca : Nat → ClassId) : OkAll l D ca yX7_set cX7_set 4 (some .int) 5 0 0 (sp_X7_set ca) := by
  intro av h post hs
  obtain ⟨o, b, qh, qa, B, x3, x4, x5, lk, s, oo, ss, S, x, y, rfl, J, hC, hbo, hs⟩ := hs
  have hb := J.1
  unfold aSet at hs
  have c0 := hC.1
  refine okM_of t_X7_set (by decide +kernel) (c1_ref (c1_int (c1_int c1_nil))) (Nat.le_of_ble_eq_true rfl) ?_
  intro K go
  cases q1 : isSet x y with
  | false =>
    rw [q1, if_neg (by decide)] at hs
    have k0 := hs.1 rfl
    refine goN go (stp []) 160 _ _ _ _ _ _ (fun F hF hF0 => ?_)
    simp only [hF, hF0, ite_not, i_push, i_iload, i_lload, i_aload, i_istore, i_astore, i_lstore, i_iinc, i_bin, i_dv, i_un, i_lbin, i_lsh, i_i2l, i_l2i, i_lcmp, i_dup, i_dup2, i_pop, i_if, i_icmp, i_goto, swG, i_sw, i_getf, i_puti, i_putz, i_putr, i_ald, i_lald, i_aald, i_ast, i_last, i_aast, i_alen, i_new, i_newi, i_newl, i_newq, i_oinit, i_ret, i_zret, i_lret, i_vret, catS, tk, rpush, isO, i_m1, i_m2, i_acopy, i_callV, i_callS, KRet, lget, lput, lputL, lcl0, isL, lv0, List.map_cons, List.map_nil, List.length_cons, List.length_nil, List.cons_append, List.nil_append, Nat.reduceAdd, Nat.reduceSub, Nat.reduceLeDiff, List.replicate_succ, List.replicate_zero, List.getElem?_cons_succ, List.getElem?_cons_zero, List.set_cons_succ, List.set_cons_zero, true_and, and_true, if_true, if_false, ↓reduceIte, Nat.le_refl, Value.category, va_up_app, eq_self, stp, Nat.reduceBEq, Bool.or_false, Bool.false_or, Bool.true_or, Bool.or_true, or_true, true_or, bx_uu, implies_true, true_implies, not_true, not_false_eq_true, false_implies, and_self, Nat.reduceLT, Int32.reduceAdd, Int32.reduceSub, Int32.reduceMul, Int32.reduceLE, Int32.reduceLT, Int32.reduceToNatClampNeg, va_rf_some, Bool.false_eq_true, k_X7_set_0 ca, k_X7_set_1 ca, k_X7_set_2 ca, k_X7_set_5 ca, k_X7_set_8 ca, k_X7_set_10 ca, k_X7_set_11 ca, k_X7_set_12 ca, k_X7_set_15 ca, k_X7_set_16 ca, k_X7_set_19 ca, k_X7_set_22 ca, k_X7_set_23 ca, k_X7_set_24 ca, k_X7_set_25 ca, k_X7_set_26 ca, k_X7_set_29 ca, k_X7_set_32 ca, k_X7_set_33 ca, k_X7_set_34 ca, k_X7_set_35 ca, k_X7_set_36 ca, sp_X7_isSetting, q1, b2i_f]
    try clear hF hF0 F
    exact k0
  | true =>
    rw [q1, if_pos rfl] at hs
    have hx : ∃ X, X < 2 ∧ x = nI X := by
      unfold isSet at q1
      by_cases z : x = 0
      · exact ⟨0, by decide, z.trans nI_0.symm⟩
      · rw [if_neg z, Bool.and_eq_true] at q1
        exact ⟨1, by decide, (of_decide_eq_true q1.1).trans n1.symm⟩
    obtain ⟨X, hX, rfl⟩ := hx
    have xx : (nI X).toNatClampNeg = X := tn127 (by omega)
    have vx : vp_in (nI X) 2 := vp_in_nI hX (by decide)
    rw [xx] at hs
    refine goN go (stp [15]) 160 _ _ _ _ _ _ (fun F hF hF0 => ?_)
    simp only [hF, hF0, ite_not, i_push, i_iload, i_lload, i_aload, i_istore, i_astore, i_lstore, i_iinc, i_bin, i_dv, i_un, i_lbin, i_lsh, i_i2l, i_l2i, i_lcmp, i_dup, i_dup2, i_pop, i_if, i_icmp, i_goto, swG, i_sw, i_getf, i_puti, i_putz, i_putr, i_ald, i_lald, i_aald, i_ast, i_last, i_aast, i_alen, i_new, i_newi, i_newl, i_newq, i_oinit, i_ret, i_zret, i_lret, i_vret, catS, tk, rpush, isO, i_m1, i_m2, i_acopy, i_callV, i_callS, KRet, lget, lput, lputL, lcl0, isL, lv0, List.map_cons, List.map_nil, List.length_cons, List.length_nil, List.cons_append, List.nil_append, Nat.reduceAdd, Nat.reduceSub, Nat.reduceLeDiff, List.replicate_succ, List.replicate_zero, List.getElem?_cons_succ, List.getElem?_cons_zero, List.set_cons_succ, List.set_cons_zero, true_and, and_true, if_true, if_false, ↓reduceIte, Nat.le_refl, Value.category, va_up_app, eq_self, stp, Nat.reduceBEq, Bool.or_false, Bool.false_or, Bool.true_or, Bool.or_true, or_true, true_or, bx_uu, implies_true, true_implies, not_true, not_false_eq_true, false_implies, and_self, Nat.reduceLT, Int32.reduceAdd, Int32.reduceSub, Int32.reduceMul, Int32.reduceLE, Int32.reduceLT, Int32.reduceToNatClampNeg, va_rf_some, Bool.false_eq_true, k_X7_set_0 ca, k_X7_set_1 ca, k_X7_set_2 ca, k_X7_set_5 ca, k_X7_set_8 ca, k_X7_set_10 ca, k_X7_set_11 ca, k_X7_set_12 ca, k_X7_set_15 ca, k_X7_set_16 ca, k_X7_set_19 ca, k_X7_set_22 ca, k_X7_set_23 ca, k_X7_set_24 ca, k_X7_set_25 ca, k_X7_set_26 ca, k_X7_set_29 ca, k_X7_set_32 ca, k_X7_set_33 ca, k_X7_set_34 ca, k_X7_set_35 ca, k_X7_set_36 ca, sp_X7_isSetting, q1, b2i_t, one0, c0]
    try clear hF hF0 F
    refine rec_of J hC hbo (fun h1 hC1 hm1 => ?_)
    obtain ⟨d1, d2, -⟩ := id hC1
    obtain ⟨e0, -, -, -, ⟨f1, e1, e2⟩⟩ := d2.c
    have e3 := e2 X (by omega)
    have hS2 := SAt_set hb d2 (upd f1 X y)
    have hS3 : SAt ca (va_up h1 (b 2) (some (.inl (ca 0, 2, .inl (upd f1 X y))))) b (upd s (6 + X) y) := SAt_cong hS2 (fun j hj => by
      rw [upd_app]
      by_cases z : 6 ≤ j ∧ j < 8
      · have e : j = 6 + (j - 6) := by omega
        rw [e, ovr_in (by omega), upd_app, e2 _ (by omega)]
        by_cases w : j - 6 = X
        · rw [if_pos w, if_pos (by omega)]
        · rw [if_neg w, if_neg (by omega)]
      · rw [ovr_out (by omega), if_neg (by omega)])
    have k0 := hs.2 rfl _ (hC1.now J hS3 (Same_up (by decide) _)) (hm1.tr (SmC.now (Same_up (by decide) _)))
    refine goN go (stp []) 160 _ _ _ _ _ _ (fun F hF hF0 => ?_)
    simp only [hF, hF0, ite_not, i_push, i_iload, i_lload, i_aload, i_istore, i_astore, i_lstore, i_iinc, i_bin, i_dv, i_un, i_lbin, i_lsh, i_i2l, i_l2i, i_lcmp, i_dup, i_dup2, i_pop, i_if, i_icmp, i_goto, swG, i_sw, i_getf, i_puti, i_putz, i_putr, i_ald, i_lald, i_aald, i_ast, i_last, i_aast, i_alen, i_new, i_newi, i_newl, i_newq, i_oinit, i_ret, i_zret, i_lret, i_vret, catS, tk, rpush, isO, i_m1, i_m2, i_acopy, i_callV, i_callS, KRet, lget, lput, lputL, lcl0, isL, lv0, List.map_cons, List.map_nil, List.length_cons, List.length_nil, List.cons_append, List.nil_append, Nat.reduceAdd, Nat.reduceSub, Nat.reduceLeDiff, List.replicate_succ, List.replicate_zero, List.getElem?_cons_succ, List.getElem?_cons_zero, List.set_cons_succ, List.set_cons_zero, true_and, and_true, if_true, if_false, ↓reduceIte, Nat.le_refl, Value.category, va_up_app, eq_self, stp, Nat.reduceBEq, Bool.or_false, Bool.false_or, Bool.true_or, Bool.or_true, or_true, true_or, bx_uu, implies_true, true_implies, not_true, not_false_eq_true, false_implies, and_self, Nat.reduceLT, Int32.reduceAdd, Int32.reduceSub, Int32.reduceMul, Int32.reduceLE, Int32.reduceLT, Int32.reduceToNatClampNeg, va_rf_some, Bool.false_eq_true, k_X7_set_0 ca, k_X7_set_1 ca, k_X7_set_2 ca, k_X7_set_5 ca, k_X7_set_8 ca, k_X7_set_10 ca, k_X7_set_11 ca, k_X7_set_12 ca, k_X7_set_15 ca, k_X7_set_16 ca, k_X7_set_19 ca, k_X7_set_22 ca, k_X7_set_23 ca, k_X7_set_24 ca, k_X7_set_25 ca, k_X7_set_26 ca, k_X7_set_29 ca, k_X7_set_32 ca, k_X7_set_33 ca, k_X7_set_34 ca, k_X7_set_35 ca, k_X7_set_36 ca, d1, e0, e1, e3, vx, xx]
    try clear hF hF0 F
    exact k0

