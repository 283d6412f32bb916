/-! History's, LoopFinder's constructors -/
theorem SAt_b {ca : Nat → ClassId} {h : PH} {b b' : Nat → Nat} {s : Nat → Int32} (e : ∀ i, i < 22 → b i = b' i) (hS : SAt ca h b s) : SAt ca h b' s := by
  obtain ⟨x0, ⟨f1, x1, y1⟩, ⟨f2, x2, y2⟩, ⟨f3, x3, y3⟩, ⟨f4, x4, y4⟩, ⟨f5, x5⟩, ⟨f6, x6⟩, ⟨x7, ⟨f8, x8, y8⟩, ⟨f9, x9, y9⟩, ⟨f10, x10, y10⟩⟩, x11, ⟨x12, ⟨f13, x13, y13⟩, ⟨f14, x14, y14⟩, ⟨f15, x15, y15⟩⟩, x16, ⟨x17, ⟨f18, x18, y18⟩, ⟨f19, x19, y19⟩, ⟨f20, x20, y20⟩⟩, x21⟩ := hS
  unfold eState at x0
  rw [e 0 (by decide), e 1 (by decide), e 2 (by decide), e 3 (by decide), e 4 (by decide), e 5 (by decide), e 6 (by decide)] at x0
  rw [e 1 (by decide)] at x1
  rw [e 2 (by decide)] at x2
  rw [e 3 (by decide)] at x3
  rw [e 4 (by decide)] at x4
  rw [e 5 (by decide)] at x5
  rw [e 6 (by decide)] at x6
  rw [e 7 (by decide), e 8 (by decide), e 9 (by decide), e 10 (by decide)] at x7
  rw [e 8 (by decide)] at x8
  rw [e 9 (by decide)] at x9
  rw [e 10 (by decide)] at x10
  rw [e 11 (by decide)] at x11
  rw [e 12 (by decide), e 13 (by decide), e 14 (by decide), e 15 (by decide)] at x12
  rw [e 13 (by decide)] at x13
  rw [e 14 (by decide)] at x14
  rw [e 15 (by decide)] at x15
  rw [e 16 (by decide)] at x16
  rw [e 17 (by decide), e 18 (by decide), e 19 (by decide), e 20 (by decide)] at x17
  rw [e 18 (by decide)] at x18
  rw [e 19 (by decide)] at x19
  rw [e 20 (by decide)] at x20
  rw [e 21 (by decide)] at x21
  exact ⟨x0, ⟨f1, x1, y1⟩, ⟨f2, x2, y2⟩, ⟨f3, x3, fun i hi => (y3 i hi).trans (by show some (b (7 + 5 * i)) = some (b' (7 + 5 * i)); rw [e _ (by omega)])⟩, ⟨f4, x4, fun i hi => (y4 i hi).trans (by show some (b (11 + 5 * i)) = some (b' (11 + 5 * i)); rw [e _ (by omega)])⟩, ⟨f5, x5⟩, ⟨f6, x6⟩, ⟨x7, ⟨f8, x8, y8⟩, ⟨f9, x9, y9⟩, ⟨f10, x10, y10⟩⟩, x11, ⟨x12, ⟨f13, x13, y13⟩, ⟨f14, x14, y14⟩, ⟨f15, x15, y15⟩⟩, x16, ⟨x17, ⟨f18, x18, y18⟩, ⟨f19, x19, y19⟩, ⟨f20, x20, y20⟩⟩, x21⟩
/-- all cells but that at o are still there -/
def KA (o : Nat) (H H2 : PH) : Prop := ∀ x e, ¬ x = o → H x = some e → H2 x = some e
theorem KA.tr {o : Nat} {H H1 H2 : PH} (a : KA o H H1) (b : KA o H1 H2) : KA o H H2 := fun x e hx h => b x e hx (a x e hx h)
theorem SAt_ka {ca : Nat → ClassId} {H H2 : PH} {b : Nat → Nat} {s : Nat → Int32} {o : Nat} (hS : SAt ca H b s) (hx : ∀ i, i < 22 → ∃ e, H (b i) = some e) (ho : ∀ i, i < 22 → ¬ b i = o) (hk : KA o H H2) : SAt ca H2 b s := SAt_kept hS (fun i hi => by
  obtain ⟨e, he⟩ := hx i hi
  rw [he, hk _ e (ho i hi) he])
def LHx (ca : Nat → ClassId) (h H : PH) (Q : Nat → Nat) (k : Nat) : Prop := Bk h H Q (2 + 22 * k) ∧ H (Q 0) = some (.inr (0, [.ref (Q 1), .int 0, .int 0])) ∧ (∃ f, H (Q 1) = some (.inl (ca 5, 4, .inr (.inr (.inr (.inr f))))) ∧ ∀ i, i < k → f i = some (Q (2 + 22 * i))) ∧ ∀ i, i < k → SAt ca H (fun j => Q (2 + 22 * i + j)) s0
theorem LHx_step {ca : Nat → ClassId} {h H G : PH} {Q c : Nat → Nat} {k st : Nat} {e0 : va_E} {f : Nat → Option Nat} (L : LHx ca h H Q k) (hst : H st = none) (C : Bk (va_up H st (some e0)) G c 22) (hc : c 0 = st) (g : SAt ca G c s0) (e1 : H (Q 1) = some (.inl (ca 5, 4, .inr (.inr (.inr (.inr f)))))) : LHx ca h (va_up G (Q 1) (some (.inl (ca 5, 4, .inr (.inr (.inr (.inr (va_up f k (some st)))))))))  (Qa Q (2 + 22 * k) c) (k + 1) := by
  obtain ⟨B, l0, ⟨f', l1, m1⟩, l2⟩ := L
  rw [e1] at l1; cases l1
  have B1 : Bk h G (Qa Q (2 + 22 * k) c) (2 + 22 * k + 22) := B.app (by omega) hst C (by decide) hc
  have q1 : Qa Q (2 + 22 * k) c 1 = Q 1 := Qa_lt (by omega)
  have B2 := B1.up (i := 1) (by omega) (.inl (ca 5, 4, .inr (.inr (.inr (.inr (va_up f k (some st)))))))
  rw [q1] at B2
  have hka : KA (Q 1) H (va_up G (Q 1) (some (.inl (ca 5, 4, .inr (.inr (.inr (.inr (va_up f k (some st))))))))) := fun x e hx hh => (va_up_ne _ _ hx).trans (Bk.keep hst C hc hh)
  refine ⟨by rw [show 2 + 22 * (k + 1) = 2 + 22 * k + 22 by omega]; exact B2, ?_, ⟨va_up f k (some st), ?_, fun i hi => ?_⟩, fun i hi => ?_⟩
  · rw [Qa_lt (show 0 < 2 + 22 * k by omega), q1]
    exact hka _ _ (fun z => absurd (B.1 0 1 (by omega) (by omega) z) (by decide)) l0
  · rw [q1]; exact va_up_self _ _ _
  · by_cases z : i = k
    · rw [z, va_up_self, Qa_ge (Nat.le_refl _), Nat.sub_self, hc]
    · rw [va_up_ne _ _ z, Qa_lt (by omega)]; exact m1 i (by omega)
  · by_cases z : i = k
    · subst z
      refine SAt_b (b := c) (fun j hj => by rw [Qa_ge (by omega), Nat.add_sub_cancel_left]) (SAt_kept g (fun j hj => va_up_ne _ _ (fun w => ?_)))
      have := B1.1 (2 + 22 * i + j) 1 (by omega) (by omega) (by rw [Qa_ge (by omega), Nat.add_sub_cancel_left, q1, w])
      omega
    · refine SAt_b (b := fun j => Q (2 + 22 * i + j)) (fun j hj => (Qa_lt (by omega)).symm) (SAt_ka (l2 i (by omega)) (fun j hj => B.2.2.1 _ (by omega)) (fun j hj w => ?_) hka)
      have := B.1 (2 + 22 * i + j) 1 (by omega) (by omega) w
      omega
def sp_X0_init (ca : Nat → ClassId) : SPEC := fun av h post => ∃ a, av = [.ref a] ∧ h a = some (.inr (0, [.null, .int 0, .int 0])) ∧ ∀ H Q, Q 0 = a → LHx ca h H Q 4 → post none H
def k_X0_init (ca : Nat → ClassId) : Nat → IT := fun pc => lk pc [(0, i_aload 0 1),
  (1, i_oinit 4),
  (4, i_aload 0 5),
  (5, i_push (.int 4) 6),
  (6, i_newq 89 620 (ca 5) 4 9),
  (9, i_putr 0 0 12),
  (12, i_push (.int 0) 13),
  (13, i_istore 1 14),
  (14, i_iload 1 15),
  (15, i_push (.int 4) 16),
  (16, i_icmp (fun x y => y ≤ x) 38 19),
  (19, i_aload 0 20),
  (20, i_getf 0 0 23),
  (23, i_iload 1 24),
  (24, i_new 89 620 4 8 [.null, .null, .null, .null, .int 0, .int 0, .null, .null] 27),
  (27, i_dup 28),
  (28, i_callV 4 0 21 146 89 620 (sp_X4_init ca) 31),
  (31, i_aast 4 (ca 5) 32),
  (32, i_iinc 1 1 35),
  (35, i_goto 14),
  (38, i_vret)]
set_option maxRecDepth 20000 in
theorem t_X0_init : Tb k_X0_init yX0_init cX0_init 2 none 3 89 620 := by
  intro l D ca A p e s m args below meth c post X
  unfold k_X0_init
  refine snd_cons (snd_aload_n X dX0_init_0 rfl) ?_
  refine snd_cons (snd_oinit X w_159 w_18 w_19 (by decide) (by decide) dX0_init_1) ?_
  refine snd_cons (snd_aload_n X dX0_init_4 rfl) ?_
  refine snd_cons (snd_iconst X dX0_init_5 (by decide)) ?_
  refine snd_cons (snd_newq X 5 rfl rfl rfl w_160 (fun h => h.2.2.2.2.2) (by decide) dX0_init_6) ?_
  refine snd_cons (snd_putr X Fk0 0 (by decide) rfl rfl (fun _ => ⟨rfl, rfl⟩) w_163 dX0_init_9) ?_
  refine snd_cons (snd_iconst X dX0_init_12 (by decide)) ?_
  refine snd_cons (snd_istore_n X dX0_init_13 rfl (by decide)) ?_
  refine snd_cons (snd_iload_n X dX0_init_14 rfl) ?_
  refine snd_cons (snd_iconst X dX0_init_15 (by decide)) ?_
  refine snd_cons (snd_icmp_ge X dX0_init_16 (by decide)) ?_
  refine snd_cons (snd_aload_n X dX0_init_19 rfl) ?_
  refine snd_cons (snd_getf X Fk0 0 (by decide) w_163 dX0_init_20) ?_
  refine snd_cons (snd_iload_n X dX0_init_23 rfl) ?_
  refine snd_cons (snd_new X Fk4 rfl rfl w_160 w_21 w_2 (by decide) dX0_init_24) ?_
  refine snd_cons (snd_dup X dX0_init_27) ?_
  refine snd_cons (snd_callI X (ci := 4) (ok_X4_init l D ca) rfl rfl w_162 w_23 w_2 w_24 rfl (by decide) (by decide) dX0_init_28) ?_
  refine snd_cons (snd_aastore X 5 Fk4 rfl dX0_init_31) ?_
  refine snd_cons (snd_iinc X dX0_init_32 (by decide) (by decide)) ?_
  refine snd_cons (snd_goto X dX0_init_35 (by decide)) ?_
  refine snd_cons (snd_vret X dX0_init_38) ?_
  exact snd_nil
theorem k_X0_init_0 (ca : Nat → ClassId) : k_X0_init ca 0 = i_aload 0 1 := rfl
theorem k_X0_init_1 (ca : Nat → ClassId) : k_X0_init ca 1 = i_oinit 4 := rfl
theorem k_X0_init_4 (ca : Nat → ClassId) : k_X0_init ca 4 = i_aload 0 5 := rfl
theorem k_X0_init_5 (ca : Nat → ClassId) : k_X0_init ca 5 = i_push (.int 4) 6 := rfl
theorem k_X0_init_6 (ca : Nat → ClassId) : k_X0_init ca 6 = i_newq 89 620 (ca 5) 4 9 := rfl
theorem k_X0_init_9 (ca : Nat → ClassId) : k_X0_init ca 9 = i_putr 0 0 12 := rfl
theorem k_X0_init_12 (ca : Nat → ClassId) : k_X0_init ca 12 = i_push (.int 0) 13 := rfl
theorem k_X0_init_13 (ca : Nat → ClassId) : k_X0_init ca 13 = i_istore 1 14 := rfl
theorem k_X0_init_14 (ca : Nat → ClassId) : k_X0_init ca 14 = i_iload 1 15 := rfl
theorem k_X0_init_15 (ca : Nat → ClassId) : k_X0_init ca 15 = i_push (.int 4) 16 := rfl
theorem k_X0_init_16 (ca : Nat → ClassId) : k_X0_init ca 16 = i_icmp (fun x y => y ≤ x) 38 19 := rfl
theorem k_X0_init_19 (ca : Nat → ClassId) : k_X0_init ca 19 = i_aload 0 20 := rfl
theorem k_X0_init_20 (ca : Nat → ClassId) : k_X0_init ca 20 = i_getf 0 0 23 := rfl
theorem k_X0_init_23 (ca : Nat → ClassId) : k_X0_init ca 23 = i_iload 1 24 := rfl
theorem k_X0_init_24 (ca : Nat → ClassId) : k_X0_init ca 24 = i_new 89 620 4 8 [.null, .null, .null, .null, .int 0, .int 0, .null, .null] 27 := rfl
theorem k_X0_init_27 (ca : Nat → ClassId) : k_X0_init ca 27 = i_dup 28 := rfl
theorem k_X0_init_28 (ca : Nat → ClassId) : k_X0_init ca 28 = i_callV 4 0 21 146 89 620 (sp_X4_init ca) 31 := rfl
theorem k_X0_init_31 (ca : Nat → ClassId) : k_X0_init ca 31 = i_aast 4 (ca 5) 32 := rfl
theorem k_X0_init_32 (ca : Nat → ClassId) : k_X0_init ca 32 = i_iinc 1 1 35 := rfl
theorem k_X0_init_35 (ca : Nat → ClassId) : k_X0_init ca 35 = i_goto 14 := rfl
theorem k_X0_init_38 (ca : Nat → ClassId) : k_X0_init ca 38 = i_vret := rfl
set_option maxHeartbeats 4000000 in
set_option maxRecDepth 20000 in
theorem ok_X0_init (l : Launch) (D : va_G) (ca : Nat → ClassId) : OkAll l D ca yX0_init cX0_init 2 none 3 89 620 (sp_X0_init ca) := by
  intro av h post hs
  obtain ⟨a, rfl, ha, hs⟩ := hs
  refine okM_of t_X0_init (by decide +kernel) (c1_ref c1_nil) (Nat.le_of_ble_eq_true rfl) ?_
  intro K go
  have it : ∀ k, k < 4 → ∀ H Q, Q 0 = a → LHx ca h H Q k → (∀ H' Q', Q' 0 = a → LHx ca h H' Q' (k + 1) → K (1 + 22 * (k + 1)) (4 + 154 * (k + 1)) 14 [some (.ref a), some (.int (nI k + 1))] [] H') → K (1 + 22 * k) (4 + 154 * k) 14 [some (.ref a), some (.int (nI k))] [] H := by
    intro k hk H Q hQ0 hL hn
    obtain ⟨B, l0, ⟨f, l1, m1⟩, -⟩ := id hL
    rw [hQ0] at l0
    have na1 : ¬ a = Q 1 := fun z => by rw [← hQ0] at z; have := B.1 0 1 (by omega) (by omega) z; omega
    have fin : ∀ st e0 G c, H st = none → Bk (va_up H st (some e0)) G c 22 → c 0 = st → SAt ca G c s0 → K (1 + 22 * (k + 1)) (4 + 154 * (k + 1)) 14 [some (.ref a), some (.int (nI k + 1))] [] (va_up G (Q 1) (some (.inl (ca 5, 4, .inr (.inr (.inr (.inr (va_up f k (some st))))))))) := fun st e0 G c hst C hc g => hn _ _ (by rw [Qa_lt (by omega)]; exact hQ0) (LHx_step hL hst C hc g l1)
    have vk : vp_in (nI k) 4 := vp_in_nI hk (by decide)
    have xk : (nI k).toNatClampNeg = k := nI_clamp (by omega)
    have g4 : ¬ 4 ≤ nI k := nI_ge (b := 4) hk (by decide)
    have cell : ∀ st e0 G c, H st = none → Bk (va_up H st (some e0)) G c 22 → c 0 = st → SAt ca G c s0 → (∃ fs, G st = some (.inr (4, fs))) ∧ G (Q 1) = some (.inl (ca 5, 4, .inr (.inr (.inr (.inr f))))) := fun st e0 G c hst C hc g => by
      have g1 := g.1
      rw [hc] at g1
      exact ⟨⟨_, g1⟩, Bk.keep hst C hc l1⟩
    have c1 : ∀ c s : Nat, c = 1 + 22 * k → s = 4 + 154 * k → (c + 1 ≤ 89 ∧ s + 8 ≤ 620 ∧ c + 1 + 21 ≤ 89 ∧ s + 8 + 146 ≤ 620) := fun c s h1 h2 => by omega
    have hk4 : k = 0 ∨ k = 1 ∨ k = 2 ∨ k = 3 := by omega
    generalize hcc : 1 + 22 * k = cc at *
    generalize hss : 4 + 154 * k = sl at *
    obtain ⟨w1, w2, w3, w4⟩ := c1 cc sl rfl rfl
    have e1 : 1 + 22 * (k + 1) = cc + 1 + 21 := by omega
    have e2 : 4 + 154 * (k + 1) = sl + 8 + 146 := by omega
    rw [e1, e2] at fin
    refine goN go (stp [27]) 160 _ _ _ _ _ _ (fun F hF hF0 => ?_)
    simp only [hF, hF0, ite_not, i_push, i_iload, i_lload, i_aload, i_istore, i_astore, i_lstore, i_iinc, i_bin, i_dv, i_un, i_lbin, i_lsh, i_i2l, i_l2i, i_lcmp, i_dup, i_dup2, i_pop, i_if, i_icmp, i_goto, swG, i_sw, i_getf, i_puti, i_putz, i_putr, i_ald, i_lald, i_aald, i_ast, i_last, i_aast, i_alen, i_new, i_newi, i_newl, i_newq, i_oinit, i_ret, i_zret, i_lret, i_vret, catS, tk, rpush, isO, i_m1, i_m2, i_acopy, i_callV, i_callS, KRet, lget, lput, lputL, lcl0, isL, lv0, List.map_cons, List.map_nil, List.length_cons, List.length_nil, List.cons_append, List.nil_append, Nat.reduceAdd, Nat.reduceSub, Nat.reduceLeDiff, List.replicate_succ, List.replicate_zero, List.getElem?_cons_succ, List.getElem?_cons_zero, List.set_cons_succ, List.set_cons_zero, true_and, and_true, if_true, if_false, ↓reduceIte, Nat.le_refl, Value.category, va_up_app, eq_self, stp, Nat.reduceBEq, Bool.or_false, Bool.false_or, Bool.true_or, Bool.or_true, or_true, true_or, bx_uu, implies_true, true_implies, not_true, not_false_eq_true, false_implies, and_self, Nat.reduceLT, Int32.reduceAdd, Int32.reduceSub, Int32.reduceMul, Int32.reduceLE, Int32.reduceLT, Int32.reduceToNatClampNeg, va_rf_some, Bool.false_eq_true, k_X0_init_0 ca, k_X0_init_1 ca, k_X0_init_4 ca, k_X0_init_5 ca, k_X0_init_6 ca, k_X0_init_9 ca, k_X0_init_12 ca, k_X0_init_13 ca, k_X0_init_14 ca, k_X0_init_15 ca, k_X0_init_16 ca, k_X0_init_19 ca, k_X0_init_20 ca, k_X0_init_23 ca, k_X0_init_24 ca, k_X0_init_27 ca, k_X0_init_28 ca, k_X0_init_31 ca, k_X0_init_32 ca, k_X0_init_35 ca, k_X0_init_38 ca, l0, g4, w1, w2]
    try clear hF hF0 F
    intro st hst
    refine goN go (stp [31]) 160 _ _ _ _ _ _ (fun F hF hF0 => ?_)
    simp only [hF, hF0, ite_not, i_push, i_iload, i_lload, i_aload, i_istore, i_astore, i_lstore, i_iinc, i_bin, i_dv, i_un, i_lbin, i_lsh, i_i2l, i_l2i, i_lcmp, i_dup, i_dup2, i_pop, i_if, i_icmp, i_goto, swG, i_sw, i_getf, i_puti, i_putz, i_putr, i_ald, i_lald, i_aald, i_ast, i_last, i_aast, i_alen, i_new, i_newi, i_newl, i_newq, i_oinit, i_ret, i_zret, i_lret, i_vret, catS, tk, rpush, isO, i_m1, i_m2, i_acopy, i_callV, i_callS, KRet, lget, lput, lputL, lcl0, isL, lv0, List.map_cons, List.map_nil, List.length_cons, List.length_nil, List.cons_append, List.nil_append, Nat.reduceAdd, Nat.reduceSub, Nat.reduceLeDiff, List.replicate_succ, List.replicate_zero, List.getElem?_cons_succ, List.getElem?_cons_zero, List.set_cons_succ, List.set_cons_zero, true_and, and_true, if_true, if_false, ↓reduceIte, Nat.le_refl, Value.category, va_up_app, eq_self, stp, Nat.reduceBEq, Bool.or_false, Bool.false_or, Bool.true_or, Bool.or_true, or_true, true_or, bx_uu, implies_true, true_implies, not_true, not_false_eq_true, false_implies, and_self, Nat.reduceLT, Int32.reduceAdd, Int32.reduceSub, Int32.reduceMul, Int32.reduceLE, Int32.reduceLT, Int32.reduceToNatClampNeg, va_rf_some, Bool.false_eq_true, k_X0_init_0 ca, k_X0_init_1 ca, k_X0_init_4 ca, k_X0_init_5 ca, k_X0_init_6 ca, k_X0_init_9 ca, k_X0_init_12 ca, k_X0_init_13 ca, k_X0_init_14 ca, k_X0_init_15 ca, k_X0_init_16 ca, k_X0_init_19 ca, k_X0_init_20 ca, k_X0_init_23 ca, k_X0_init_24 ca, k_X0_init_27 ca, k_X0_init_28 ca, k_X0_init_31 ca, k_X0_init_32 ca, k_X0_init_35 ca, k_X0_init_38 ca, w3, w4]
    try clear hF hF0 F
    refine ⟨st, rfl, va_up_self _ _ _, fun G c hc C g => ?_⟩
    obtain ⟨⟨fs, u0⟩, u1⟩ := cell st _ G c hst C hc g
    have k0 := fin st _ G c hst C hc g
    refine goN go (stp [14]) 160 _ _ _ _ _ _ (fun F hF hF0 => ?_)
    simp only [hF, hF0, ite_not, i_push, i_iload, i_lload, i_aload, i_istore, i_astore, i_lstore, i_iinc, i_bin, i_dv, i_un, i_lbin, i_lsh, i_i2l, i_l2i, i_lcmp, i_dup, i_dup2, i_pop, i_if, i_icmp, i_goto, swG, i_sw, i_getf, i_puti, i_putz, i_putr, i_ald, i_lald, i_aald, i_ast, i_last, i_aast, i_alen, i_new, i_newi, i_newl, i_newq, i_oinit, i_ret, i_zret, i_lret, i_vret, catS, tk, rpush, isO, i_m1, i_m2, i_acopy, i_callV, i_callS, KRet, lget, lput, lputL, lcl0, isL, lv0, List.map_cons, List.map_nil, List.length_cons, List.length_nil, List.cons_append, List.nil_append, Nat.reduceAdd, Nat.reduceSub, Nat.reduceLeDiff, List.replicate_succ, List.replicate_zero, List.getElem?_cons_succ, List.getElem?_cons_zero, List.set_cons_succ, List.set_cons_zero, true_and, and_true, if_true, if_false, ↓reduceIte, Nat.le_refl, Value.category, va_up_app, eq_self, stp, Nat.reduceBEq, Bool.or_false, Bool.false_or, Bool.true_or, Bool.or_true, or_true, true_or, bx_uu, implies_true, true_implies, not_true, not_false_eq_true, false_implies, and_self, Nat.reduceLT, Int32.reduceAdd, Int32.reduceSub, Int32.reduceMul, Int32.reduceLE, Int32.reduceLT, Int32.reduceToNatClampNeg, va_rf_some, Bool.false_eq_true, k_X0_init_0 ca, k_X0_init_1 ca, k_X0_init_4 ca, k_X0_init_5 ca, k_X0_init_6 ca, k_X0_init_9 ca, k_X0_init_12 ca, k_X0_init_13 ca, k_X0_init_14 ca, k_X0_init_15 ca, k_X0_init_16 ca, k_X0_init_19 ca, k_X0_init_20 ca, k_X0_init_23 ca, k_X0_init_24 ca, k_X0_init_27 ca, k_X0_init_28 ca, k_X0_init_31 ca, k_X0_init_32 ca, k_X0_init_35 ca, k_X0_init_38 ca, u0, u1, vk, xk]
    try clear hF hF0 F
    exact k0
  have last : ∀ H Q, Q 0 = a → LHx ca h H Q 4 → K 89 620 14 [some (.ref a), some (.int 4)] [] H := by
    intro H Q hQ0 hL
    have k0 := hs H Q hQ0 hL
    refine goN go (stp []) 160 _ _ _ _ _ _ (fun F hF hF0 => ?_)
    simp only [hF, hF0, ite_not, i_push, i_iload, i_lload, i_aload, i_istore, i_astore, i_lstore, i_iinc, i_bin, i_dv, i_un, i_lbin, i_lsh, i_i2l, i_l2i, i_lcmp, i_dup, i_dup2, i_pop, i_if, i_icmp, i_goto, swG, i_sw, i_getf, i_puti, i_putz, i_putr, i_ald, i_lald, i_aald, i_ast, i_last, i_aast, i_alen, i_new, i_newi, i_newl, i_newq, i_oinit, i_ret, i_zret, i_lret, i_vret, catS, tk, rpush, isO, i_m1, i_m2, i_acopy, i_callV, i_callS, KRet, lget, lput, lputL, lcl0, isL, lv0, List.map_cons, List.map_nil, List.length_cons, List.length_nil, List.cons_append, List.nil_append, Nat.reduceAdd, Nat.reduceSub, Nat.reduceLeDiff, List.replicate_succ, List.replicate_zero, List.getElem?_cons_succ, List.getElem?_cons_zero, List.set_cons_succ, List.set_cons_zero, true_and, and_true, if_true, if_false, ↓reduceIte, Nat.le_refl, Value.category, va_up_app, eq_self, stp, Nat.reduceBEq, Bool.or_false, Bool.false_or, Bool.true_or, Bool.or_true, or_true, true_or, bx_uu, implies_true, true_implies, not_true, not_false_eq_true, false_implies, and_self, Nat.reduceLT, Int32.reduceAdd, Int32.reduceSub, Int32.reduceMul, Int32.reduceLE, Int32.reduceLT, Int32.reduceToNatClampNeg, va_rf_some, Bool.false_eq_true, k_X0_init_0 ca, k_X0_init_1 ca, k_X0_init_4 ca, k_X0_init_5 ca, k_X0_init_6 ca, k_X0_init_9 ca, k_X0_init_12 ca, k_X0_init_13 ca, k_X0_init_14 ca, k_X0_init_15 ca, k_X0_init_16 ca, k_X0_init_19 ca, k_X0_init_20 ca, k_X0_init_23 ca, k_X0_init_24 ca, k_X0_init_27 ca, k_X0_init_28 ca, k_X0_init_31 ca, k_X0_init_32 ca, k_X0_init_35 ca, k_X0_init_38 ca]
    try clear hF hF0 F
    exact k0
  have loops : ∀ H Q, Q 0 = a → LHx ca h H Q 0 → K 1 4 14 [some (.ref a), some (.int 0)] [] H := by
    intro H Q hQ0 hL
    refine it 0 (by decide) H Q hQ0 hL (fun H1 Q1 hQ1 hL1 => ?_)
    refine it 1 (by decide) H1 Q1 hQ1 hL1 (fun H2 Q2 hQ2 hL2 => ?_)
    refine it 2 (by decide) H2 Q2 hQ2 hL2 (fun H3 Q3 hQ3 hL3 => ?_)
    refine it 3 (by decide) H3 Q3 hQ3 hL3 (fun H4 Q4 hQ4 hL4 => ?_)
    exact last H4 Q4 hQ4 hL4
  clear it last
  refine goN go (stp [9]) 160 _ _ _ _ _ _ (fun F hF hF0 => ?_)
  simp only [hF, hF0, ite_not, i_push, i_iload, i_lload, i_aload, i_istore, i_astore, i_lstore, i_iinc, i_bin, i_dv, i_un, i_lbin, i_lsh, i_i2l, i_l2i, i_lcmp, i_dup, i_dup2, i_pop, i_if, i_icmp, i_goto, swG, i_sw, i_getf, i_puti, i_putz, i_putr, i_ald, i_lald, i_aald, i_ast, i_last, i_aast, i_alen, i_new, i_newi, i_newl, i_newq, i_oinit, i_ret, i_zret, i_lret, i_vret, catS, tk, rpush, isO, i_m1, i_m2, i_acopy, i_callV, i_callS, KRet, lget, lput, lputL, lcl0, isL, lv0, List.map_cons, List.map_nil, List.length_cons, List.length_nil, List.cons_append, List.nil_append, Nat.reduceAdd, Nat.reduceSub, Nat.reduceLeDiff, List.replicate_succ, List.replicate_zero, List.getElem?_cons_succ, List.getElem?_cons_zero, List.set_cons_succ, List.set_cons_zero, true_and, and_true, if_true, if_false, ↓reduceIte, Nat.le_refl, Value.category, va_up_app, eq_self, stp, Nat.reduceBEq, Bool.or_false, Bool.false_or, Bool.true_or, Bool.or_true, or_true, true_or, bx_uu, implies_true, true_implies, not_true, not_false_eq_true, false_implies, and_self, Nat.reduceLT, Int32.reduceAdd, Int32.reduceSub, Int32.reduceMul, Int32.reduceLE, Int32.reduceLT, Int32.reduceToNatClampNeg, va_rf_some, Bool.false_eq_true, k_X0_init_0 ca, k_X0_init_1 ca, k_X0_init_4 ca, k_X0_init_5 ca, k_X0_init_6 ca, k_X0_init_9 ca, k_X0_init_12 ca, k_X0_init_13 ca, k_X0_init_14 ca, k_X0_init_15 ca, k_X0_init_16 ca, k_X0_init_19 ca, k_X0_init_20 ca, k_X0_init_23 ca, k_X0_init_24 ca, k_X0_init_27 ca, k_X0_init_28 ca, k_X0_init_31 ca, k_X0_init_32 ca, k_X0_init_35 ca, k_X0_init_38 ca, ha]
  try clear hF hF0 F
  intro q1 hq1
  have B1 := (Bk.one ha).new (by decide) hq1 (.inl (ca 5, 4, .inr (.inr (.inr (.inr (fun _ => none))))))
  have d1 : ¬ a = q1 := ne_none ha hq1
  have B2 := B1.up (i := 0) (by decide) (.inr (0, [.ref q1, .int 0, .int 0]))
  have k0 := loops _ (Qa (fun _ => a) 1 (fun _ => q1)) rfl ⟨B2, va_up_self _ _ _, ⟨_, (va_up_ne _ _ (fun z => d1 z.symm)).trans (va_up_self _ _ _), fun i hi => absurd hi (by omega)⟩, fun i hi => absurd hi (by omega)⟩
  refine goN go (stp [14]) 160 _ _ _ _ _ _ (fun F hF hF0 => ?_)
  simp only [hF, hF0, ite_not, i_push, i_iload, i_lload, i_aload, i_istore, i_astore, i_lstore, i_iinc, i_bin, i_dv, i_un, i_lbin, i_lsh, i_i2l, i_l2i, i_lcmp, i_dup, i_dup2, i_pop, i_if, i_icmp, i_goto, swG, i_sw, i_getf, i_puti, i_putz, i_putr, i_ald, i_lald, i_aald, i_ast, i_last, i_aast, i_alen, i_new, i_newi, i_newl, i_newq, i_oinit, i_ret, i_zret, i_lret, i_vret, catS, tk, rpush, isO, i_m1, i_m2, i_acopy, i_callV, i_callS, KRet, lget, lput, lputL, lcl0, isL, lv0, List.map_cons, List.map_nil, List.length_cons, List.length_nil, List.cons_append, List.nil_append, Nat.reduceAdd, Nat.reduceSub, Nat.reduceLeDiff, List.replicate_succ, List.replicate_zero, List.getElem?_cons_succ, List.getElem?_cons_zero, List.set_cons_succ, List.set_cons_zero, true_and, and_true, if_true, if_false, ↓reduceIte, Nat.le_refl, Value.category, va_up_app, eq_self, stp, Nat.reduceBEq, Bool.or_false, Bool.false_or, Bool.true_or, Bool.or_true, or_true, true_or, bx_uu, implies_true, true_implies, not_true, not_false_eq_true, false_implies, and_self, Nat.reduceLT, Int32.reduceAdd, Int32.reduceSub, Int32.reduceMul, Int32.reduceLE, Int32.reduceLT, Int32.reduceToNatClampNeg, va_rf_some, Bool.false_eq_true, k_X0_init_0 ca, k_X0_init_1 ca, k_X0_init_4 ca, k_X0_init_5 ca, k_X0_init_6 ca, k_X0_init_9 ca, k_X0_init_12 ca, k_X0_init_13 ca, k_X0_init_14 ca, k_X0_init_15 ca, k_X0_init_16 ca, k_X0_init_19 ca, k_X0_init_20 ca, k_X0_init_23 ca, k_X0_init_24 ca, k_X0_init_27 ca, k_X0_init_28 ca, k_X0_init_31 ca, k_X0_init_32 ca, k_X0_init_35 ca, k_X0_init_38 ca, ha, d1]
  try clear hF hF0 F
  exact k0
def LPx (ca : Nat → ClassId) (h H : PH) (Q : Nat → Nat) : Prop := Bk h H Q 26 ∧ H (Q 0) = some (.inr (1, [.ref (Q 1), .ref (Q 23), .ref (Q 24), .ref (Q 25), .int 0, .int 0, .int 0, .int 0])) ∧ SAt ca H (fun j => Q (1 + j)) s0 ∧ H (Q 23) = some (.inl (ca 1, 1501, .inr (.inl (fun _ => 0)))) ∧ H (Q 24) = some (.inl (ca 0, 1501, .inl (fun _ => 0))) ∧ H (Q 25) = some (.inl (ca 0, 4096, .inl (fun _ => 0)))
def sp_X1_init (ca : Nat → ClassId) : SPEC := fun av h post => ∃ a, av = [.ref a] ∧ h a = some (.inr (1, [.null, .null, .null, .null, .int 0, .int 0, .int 0, .int 0])) ∧ ∀ H Q, Q 0 = a → LPx ca h H Q → post none H
def k_X1_init (ca : Nat → ClassId) : Nat → IT := fun pc => lk pc [(0, i_aload 0 1),
  (1, i_oinit 4),
  (4, i_aload 0 5),
  (5, i_new 25 7252 4 8 [.null, .null, .null, .null, .int 0, .int 0, .null, .null] 8),
  (8, i_dup 9),
  (9, i_callV 4 0 21 146 25 7252 (sp_X4_init ca) 12),
  (12, i_putr 1 0 15),
  (15, i_aload 0 16),
  (16, i_push (.int 1501) 19),
  (19, i_newl 25 7252 (ca 1) 1501 21),
  (21, i_putr 1 1 24),
  (24, i_aload 0 25),
  (25, i_push (.int 1501) 28),
  (28, i_newi 25 7252 (ca 0) 1501 30),
  (30, i_putr 1 2 33),
  (33, i_aload 0 34),
  (34, i_push (.int 4096) 37),
  (37, i_newi 25 7252 (ca 0) 4096 39),
  (39, i_putr 1 3 42),
  (42, i_vret)]
set_option maxRecDepth 20000 in
theorem t_X1_init : Tb k_X1_init yX1_init cX1_init 1 none 3 25 7252 := by
  intro l D ca A p e s m args below meth c post X
  unfold k_X1_init
  refine snd_cons (snd_aload_n X dX1_init_0 rfl) ?_
  refine snd_cons (snd_oinit X w_194 w_18 w_19 (by decide) (by decide) dX1_init_1) ?_
  refine snd_cons (snd_aload_n X dX1_init_4 rfl) ?_
  refine snd_cons (snd_new X Fk4 rfl rfl w_195 w_21 w_2 (by decide) dX1_init_5) ?_
  refine snd_cons (snd_dup X dX1_init_8) ?_
  refine snd_cons (snd_callI X (ci := 4) (ok_X4_init l D ca) rfl rfl w_196 w_23 w_2 w_24 rfl (by decide) (by decide) dX1_init_9) ?_
  refine snd_cons (snd_putr X Fk1 0 (by decide) rfl rfl (fun _ => ⟨rfl, rfl⟩) w_197 dX1_init_12) ?_
  refine snd_cons (snd_aload_n X dX1_init_15 rfl) ?_
  refine snd_cons (snd_sipush X dX1_init_16 (by decide)) ?_
  refine snd_cons (snd_newl X (atype := .long) rfl rfl rfl w_226 (by decide) dX1_init_19) ?_
  refine snd_cons (snd_putr X Fk1 1 (by decide) rfl rfl (fun _ => ⟨rfl, rfl⟩) w_198 dX1_init_21) ?_
  refine snd_cons (snd_aload_n X dX1_init_24 rfl) ?_
  refine snd_cons (snd_sipush X dX1_init_25 (by decide)) ?_
  refine snd_cons (snd_newi X 0 (atype := .int) rfl rfl rfl rfl rfl w_83 (by decide) dX1_init_28) ?_
  refine snd_cons (snd_putr X Fk1 2 (by decide) rfl rfl (fun _ => ⟨rfl, rfl⟩) w_199 dX1_init_30) ?_
  refine snd_cons (snd_aload_n X dX1_init_33 rfl) ?_
  refine snd_cons (snd_sipush X dX1_init_34 (by decide)) ?_
  refine snd_cons (snd_newi X 0 (atype := .int) rfl rfl rfl rfl rfl w_83 (by decide) dX1_init_37) ?_
  refine snd_cons (snd_putr X Fk1 3 (by decide) rfl rfl (fun _ => ⟨rfl, rfl⟩) w_200 dX1_init_39) ?_
  refine snd_cons (snd_vret X dX1_init_42) ?_
  exact snd_nil
theorem k_X1_init_0 (ca : Nat → ClassId) : k_X1_init ca 0 = i_aload 0 1 := rfl
theorem k_X1_init_1 (ca : Nat → ClassId) : k_X1_init ca 1 = i_oinit 4 := rfl
theorem k_X1_init_4 (ca : Nat → ClassId) : k_X1_init ca 4 = i_aload 0 5 := rfl
theorem k_X1_init_5 (ca : Nat → ClassId) : k_X1_init ca 5 = i_new 25 7252 4 8 [.null, .null, .null, .null, .int 0, .int 0, .null, .null] 8 := rfl
theorem k_X1_init_8 (ca : Nat → ClassId) : k_X1_init ca 8 = i_dup 9 := rfl
theorem k_X1_init_9 (ca : Nat → ClassId) : k_X1_init ca 9 = i_callV 4 0 21 146 25 7252 (sp_X4_init ca) 12 := rfl
theorem k_X1_init_12 (ca : Nat → ClassId) : k_X1_init ca 12 = i_putr 1 0 15 := rfl
theorem k_X1_init_15 (ca : Nat → ClassId) : k_X1_init ca 15 = i_aload 0 16 := rfl
theorem k_X1_init_16 (ca : Nat → ClassId) : k_X1_init ca 16 = i_push (.int 1501) 19 := rfl
theorem k_X1_init_19 (ca : Nat → ClassId) : k_X1_init ca 19 = i_newl 25 7252 (ca 1) 1501 21 := rfl
theorem k_X1_init_21 (ca : Nat → ClassId) : k_X1_init ca 21 = i_putr 1 1 24 := rfl
theorem k_X1_init_24 (ca : Nat → ClassId) : k_X1_init ca 24 = i_aload 0 25 := rfl
theorem k_X1_init_25 (ca : Nat → ClassId) : k_X1_init ca 25 = i_push (.int 1501) 28 := rfl
theorem k_X1_init_28 (ca : Nat → ClassId) : k_X1_init ca 28 = i_newi 25 7252 (ca 0) 1501 30 := rfl
theorem k_X1_init_30 (ca : Nat → ClassId) : k_X1_init ca 30 = i_putr 1 2 33 := rfl
theorem k_X1_init_33 (ca : Nat → ClassId) : k_X1_init ca 33 = i_aload 0 34 := rfl
theorem k_X1_init_34 (ca : Nat → ClassId) : k_X1_init ca 34 = i_push (.int 4096) 37 := rfl
theorem k_X1_init_37 (ca : Nat → ClassId) : k_X1_init ca 37 = i_newi 25 7252 (ca 0) 4096 39 := rfl
theorem k_X1_init_39 (ca : Nat → ClassId) : k_X1_init ca 39 = i_putr 1 3 42 := rfl
theorem k_X1_init_42 (ca : Nat → ClassId) : k_X1_init ca 42 = i_vret := rfl
set_option maxHeartbeats 4000000 in
set_option maxRecDepth 20000 in
theorem ok_X1_init (l : Launch) (D : va_G) (ca : Nat → ClassId) : OkAll l D ca yX1_init cX1_init 1 none 3 25 7252 (sp_X1_init ca) := by
  intro av h post hs
  obtain ⟨a, rfl, ha, hs⟩ := hs
  refine okM_of t_X1_init (by decide +kernel) (c1_ref c1_nil) (Nat.le_of_ble_eq_true rfl) ?_
  intro K go
  refine goN go (stp [8]) 160 _ _ _ _ _ _ (fun F hF hF0 => ?_)
  simp only [hF, hF0, ite_not, i_push, i_iload, i_lload, i_aload, i_istore, i_astore, i_lstore, i_iinc, i_bin, i_dv, i_un, i_lbin, i_lsh, i_i2l, i_l2i, i_lcmp, i_dup, i_dup2, i_pop, i_if, i_icmp, i_goto, swG, i_sw, i_getf, i_puti, i_putz, i_putr, i_ald, i_lald, i_aald, i_ast, i_last, i_aast, i_alen, i_new, i_newi, i_newl, i_newq, i_oinit, i_ret, i_zret, i_lret, i_vret, catS, tk, rpush, isO, i_m1, i_m2, i_acopy, i_callV, i_callS, KRet, lget, lput, lputL, lcl0, isL, lv0, List.map_cons, List.map_nil, List.length_cons, List.length_nil, List.cons_append, List.nil_append, Nat.reduceAdd, Nat.reduceSub, Nat.reduceLeDiff, List.replicate_succ, List.replicate_zero, List.getElem?_cons_succ, List.getElem?_cons_zero, List.set_cons_succ, List.set_cons_zero, true_and, and_true, if_true, if_false, ↓reduceIte, Nat.le_refl, Value.category, va_up_app, eq_self, stp, Nat.reduceBEq, Bool.or_false, Bool.false_or, Bool.true_or, Bool.or_true, or_true, true_or, bx_uu, implies_true, true_implies, not_true, not_false_eq_true, false_implies, and_self, Nat.reduceLT, Int32.reduceAdd, Int32.reduceSub, Int32.reduceMul, Int32.reduceLE, Int32.reduceLT, Int32.reduceToNatClampNeg, va_rf_some, Bool.false_eq_true, k_X1_init_0 ca, k_X1_init_1 ca, k_X1_init_4 ca, k_X1_init_5 ca, k_X1_init_8 ca, k_X1_init_9 ca, k_X1_init_12 ca, k_X1_init_15 ca, k_X1_init_16 ca, k_X1_init_19 ca, k_X1_init_21 ca, k_X1_init_24 ca, k_X1_init_25 ca, k_X1_init_28 ca, k_X1_init_30 ca, k_X1_init_33 ca, k_X1_init_34 ca, k_X1_init_37 ca, k_X1_init_39 ca, k_X1_init_42 ca, ha]
  try clear hF hF0 F
  intro st hst
  have dst : ¬ a = st := ne_none ha hst
  refine goN go (stp [12]) 160 _ _ _ _ _ _ (fun F hF hF0 => ?_)
  simp only [hF, hF0, ite_not, i_push, i_iload, i_lload, i_aload, i_istore, i_astore, i_lstore, i_iinc, i_bin, i_dv, i_un, i_lbin, i_lsh, i_i2l, i_l2i, i_lcmp, i_dup, i_dup2, i_pop, i_if, i_icmp, i_goto, swG, i_sw, i_getf, i_puti, i_putz, i_putr, i_ald, i_lald, i_aald, i_ast, i_last, i_aast, i_alen, i_new, i_newi, i_newl, i_newq, i_oinit, i_ret, i_zret, i_lret, i_vret, catS, tk, rpush, isO, i_m1, i_m2, i_acopy, i_callV, i_callS, KRet, lget, lput, lputL, lcl0, isL, lv0, List.map_cons, List.map_nil, List.length_cons, List.length_nil, List.cons_append, List.nil_append, Nat.reduceAdd, Nat.reduceSub, Nat.reduceLeDiff, List.replicate_succ, List.replicate_zero, List.getElem?_cons_succ, List.getElem?_cons_zero, List.set_cons_succ, List.set_cons_zero, true_and, and_true, if_true, if_false, ↓reduceIte, Nat.le_refl, Value.category, va_up_app, eq_self, stp, Nat.reduceBEq, Bool.or_false, Bool.false_or, Bool.true_or, Bool.or_true, or_true, true_or, bx_uu, implies_true, true_implies, not_true, not_false_eq_true, false_implies, and_self, Nat.reduceLT, Int32.reduceAdd, Int32.reduceSub, Int32.reduceMul, Int32.reduceLE, Int32.reduceLT, Int32.reduceToNatClampNeg, va_rf_some, Bool.false_eq_true, k_X1_init_0 ca, k_X1_init_1 ca, k_X1_init_4 ca, k_X1_init_5 ca, k_X1_init_8 ca, k_X1_init_9 ca, k_X1_init_12 ca, k_X1_init_15 ca, k_X1_init_16 ca, k_X1_init_19 ca, k_X1_init_21 ca, k_X1_init_24 ca, k_X1_init_25 ca, k_X1_init_28 ca, k_X1_init_30 ca, k_X1_init_33 ca, k_X1_init_34 ca, k_X1_init_37 ca, k_X1_init_39 ca, k_X1_init_42 ca]
  try clear hF hF0 F
  refine ⟨st, rfl, va_up_self _ _ _, fun G c hc C g => ?_⟩
  have B1 := (Bk.one ha).app (by decide) hst C (by decide) hc
  have ga := Bk.keep hst C hc ha
  have gst := g.1
  have hcx := C.2.2.1
  have ca0 : ∀ j, j < 22 → ¬ c j = a := fun j hj z => by
    have := B1.1 (1 + j) 0 (by omega) (by omega) (by rw [Qa_ge (by omega), Nat.add_sub_cancel_left, z]; rfl)
    omega
  refine goN go (stp [21]) 160 _ _ _ _ _ _ (fun F hF hF0 => ?_)
  simp only [hF, hF0, ite_not, i_push, i_iload, i_lload, i_aload, i_istore, i_astore, i_lstore, i_iinc, i_bin, i_dv, i_un, i_lbin, i_lsh, i_i2l, i_l2i, i_lcmp, i_dup, i_dup2, i_pop, i_if, i_icmp, i_goto, swG, i_sw, i_getf, i_puti, i_putz, i_putr, i_ald, i_lald, i_aald, i_ast, i_last, i_aast, i_alen, i_new, i_newi, i_newl, i_newq, i_oinit, i_ret, i_zret, i_lret, i_vret, catS, tk, rpush, isO, i_m1, i_m2, i_acopy, i_callV, i_callS, KRet, lget, lput, lputL, lcl0, isL, lv0, List.map_cons, List.map_nil, List.length_cons, List.length_nil, List.cons_append, List.nil_append, Nat.reduceAdd, Nat.reduceSub, Nat.reduceLeDiff, List.replicate_succ, List.replicate_zero, List.getElem?_cons_succ, List.getElem?_cons_zero, List.set_cons_succ, List.set_cons_zero, true_and, and_true, if_true, if_false, ↓reduceIte, Nat.le_refl, Value.category, va_up_app, eq_self, stp, Nat.reduceBEq, Bool.or_false, Bool.false_or, Bool.true_or, Bool.or_true, or_true, true_or, bx_uu, implies_true, true_implies, not_true, not_false_eq_true, false_implies, and_self, Nat.reduceLT, Int32.reduceAdd, Int32.reduceSub, Int32.reduceMul, Int32.reduceLE, Int32.reduceLT, Int32.reduceToNatClampNeg, va_rf_some, Bool.false_eq_true, k_X1_init_0 ca, k_X1_init_1 ca, k_X1_init_4 ca, k_X1_init_5 ca, k_X1_init_8 ca, k_X1_init_9 ca, k_X1_init_12 ca, k_X1_init_15 ca, k_X1_init_16 ca, k_X1_init_19 ca, k_X1_init_21 ca, k_X1_init_24 ca, k_X1_init_25 ca, k_X1_init_28 ca, k_X1_init_30 ca, k_X1_init_33 ca, k_X1_init_34 ca, k_X1_init_37 ca, k_X1_init_39 ca, k_X1_init_42 ca, ga]
  try clear hF hF0 F
  intro q1 hq1
  have hq1 : va_up G a (some (.inr (1, [.ref st, .null, .null, .null, .int 0, .int 0, .int 0, .int 0]))) q1 = none := hq1
  have B2 : Bk h (va_up G a (some (.inr (1, [.ref st, .null, .null, .null, .int 0, .int 0, .int 0, .int 0])))) (Qa (fun _ => a) 1 c) 23 := B1.up (i := 0) (by decide) _
  have hS1 : SAt ca (va_up G a (some (.inr (1, [.ref st, .null, .null, .null, .int 0, .int 0, .int 0, .int 0])))) c s0 := SAt_kept g (fun j hj => va_up_ne _ _ (ca0 j hj))
  have hx1 : ∀ j, j < 22 → ∃ e, va_up G a (some (.inr (1, [.ref st, .null, .null, .null, .int 0, .int 0, .int 0, .int 0]))) (c j) = some e := fun j hj => by rw [va_up_ne _ _ (ca0 j hj)]; exact hcx j hj
  have a1 : va_up G a (some (.inr (1, [.ref st, .null, .null, .null, .int 0, .int 0, .int 0, .int 0]))) a = some (.inr (1, [.ref st, .null, .null, .null, .int 0, .int 0, .int 0, .int 0])) := va_up_self _ _ _
  generalize va_up G a (some (.inr (1, [.ref st, .null, .null, .null, .int 0, .int 0, .int 0, .int 0]))) = H1 at *
  have B3 := B2.new (by decide) hq1 (.inl (ca 1, 1501, .inr (.inl (fun _ => 0))))
  have d1 : ¬ a = q1 := ne_none a1 hq1
  have c1 : ∀ j, j < 22 → ¬ c j = q1 := fun j hj => by obtain ⟨e, he⟩ := hx1 j hj; exact ne_none he hq1
  refine goN go (stp [30]) 160 _ _ _ _ _ _ (fun F hF hF0 => ?_)
  simp only [hF, hF0, ite_not, i_push, i_iload, i_lload, i_aload, i_istore, i_astore, i_lstore, i_iinc, i_bin, i_dv, i_un, i_lbin, i_lsh, i_i2l, i_l2i, i_lcmp, i_dup, i_dup2, i_pop, i_if, i_icmp, i_goto, swG, i_sw, i_getf, i_puti, i_putz, i_putr, i_ald, i_lald, i_aald, i_ast, i_last, i_aast, i_alen, i_new, i_newi, i_newl, i_newq, i_oinit, i_ret, i_zret, i_lret, i_vret, catS, tk, rpush, isO, i_m1, i_m2, i_acopy, i_callV, i_callS, KRet, lget, lput, lputL, lcl0, isL, lv0, List.map_cons, List.map_nil, List.length_cons, List.length_nil, List.cons_append, List.nil_append, Nat.reduceAdd, Nat.reduceSub, Nat.reduceLeDiff, List.replicate_succ, List.replicate_zero, List.getElem?_cons_succ, List.getElem?_cons_zero, List.set_cons_succ, List.set_cons_zero, true_and, and_true, if_true, if_false, ↓reduceIte, Nat.le_refl, Value.category, va_up_app, eq_self, stp, Nat.reduceBEq, Bool.or_false, Bool.false_or, Bool.true_or, Bool.or_true, or_true, true_or, bx_uu, implies_true, true_implies, not_true, not_false_eq_true, false_implies, and_self, Nat.reduceLT, Int32.reduceAdd, Int32.reduceSub, Int32.reduceMul, Int32.reduceLE, Int32.reduceLT, Int32.reduceToNatClampNeg, va_rf_some, Bool.false_eq_true, k_X1_init_0 ca, k_X1_init_1 ca, k_X1_init_4 ca, k_X1_init_5 ca, k_X1_init_8 ca, k_X1_init_9 ca, k_X1_init_12 ca, k_X1_init_15 ca, k_X1_init_16 ca, k_X1_init_19 ca, k_X1_init_21 ca, k_X1_init_24 ca, k_X1_init_25 ca, k_X1_init_28 ca, k_X1_init_30 ca, k_X1_init_33 ca, k_X1_init_34 ca, k_X1_init_37 ca, k_X1_init_39 ca, k_X1_init_42 ca, a1, d1]
  try clear hF hF0 F
  intro q2 hq2
  have hq2 : va_up (va_up H1 q1 (some (.inl (ca 1, 1501, .inr (.inl (fun _ => 0)))))) a (some (.inr (1, [.ref st, .ref q1, .null, .null, .int 0, .int 0, .int 0, .int 0]))) q2 = none := hq2
  have B4 : Bk h (va_up (va_up H1 q1 (some (.inl (ca 1, 1501, .inr (.inl (fun _ => 0)))))) a (some (.inr (1, [.ref st, .ref q1, .null, .null, .int 0, .int 0, .int 0, .int 0])))) (Qa (Qa (fun _ => a) 1 c) 23 (fun _ => q1)) 24 := B3.up (i := 0) (by decide) _
  have hS2 : SAt ca (va_up (va_up H1 q1 (some (.inl (ca 1, 1501, .inr (.inl (fun _ => 0)))))) a (some (.inr (1, [.ref st, .ref q1, .null, .null, .int 0, .int 0, .int 0, .int 0])))) c s0 := SAt_kept hS1 (fun j hj => (va_up_ne _ _ (ca0 j hj)).trans (va_up_ne _ _ (c1 j hj)))
  have hx2 : ∀ j, j < 22 → ∃ e, va_up (va_up H1 q1 (some (.inl (ca 1, 1501, .inr (.inl (fun _ => 0)))))) a (some (.inr (1, [.ref st, .ref q1, .null, .null, .int 0, .int 0, .int 0, .int 0]))) (c j) = some e := fun j hj => by rw [va_up_ne _ _ (ca0 j hj), va_up_ne _ _ (c1 j hj)]; exact hx1 j hj
  have a2 : va_up (va_up H1 q1 (some (.inl (ca 1, 1501, .inr (.inl (fun _ => 0)))))) a (some (.inr (1, [.ref st, .ref q1, .null, .null, .int 0, .int 0, .int 0, .int 0]))) a = some (.inr (1, [.ref st, .ref q1, .null, .null, .int 0, .int 0, .int 0, .int 0])) := va_up_self _ _ _
  have b2 : va_up (va_up H1 q1 (some (.inl (ca 1, 1501, .inr (.inl (fun _ => 0)))))) a (some (.inr (1, [.ref st, .ref q1, .null, .null, .int 0, .int 0, .int 0, .int 0]))) q1 = some (.inl (ca 1, 1501, .inr (.inl (fun _ => 0)))) := (va_up_ne _ _ (fun z => d1 z.symm)).trans (va_up_self _ _ _)
  generalize va_up (va_up H1 q1 (some (.inl (ca 1, 1501, .inr (.inl (fun _ => 0)))))) a (some (.inr (1, [.ref st, .ref q1, .null, .null, .int 0, .int 0, .int 0, .int 0]))) = H2 at *
  have B5 := B4.new (by decide) hq2 (.inl (ca 0, 1501, .inl (fun _ => 0)))
  have d2 : ¬ a = q2 := ne_none a2 hq2
  have d12 : ¬ q1 = q2 := ne_none b2 hq2
  have c2 : ∀ j, j < 22 → ¬ c j = q2 := fun j hj => by obtain ⟨e, he⟩ := hx2 j hj; exact ne_none he hq2
  refine goN go (stp [39]) 160 _ _ _ _ _ _ (fun F hF hF0 => ?_)
  simp only [hF, hF0, ite_not, i_push, i_iload, i_lload, i_aload, i_istore, i_astore, i_lstore, i_iinc, i_bin, i_dv, i_un, i_lbin, i_lsh, i_i2l, i_l2i, i_lcmp, i_dup, i_dup2, i_pop, i_if, i_icmp, i_goto, swG, i_sw, i_getf, i_puti, i_putz, i_putr, i_ald, i_lald, i_aald, i_ast, i_last, i_aast, i_alen, i_new, i_newi, i_newl, i_newq, i_oinit, i_ret, i_zret, i_lret, i_vret, catS, tk, rpush, isO, i_m1, i_m2, i_acopy, i_callV, i_callS, KRet, lget, lput, lputL, lcl0, isL, lv0, List.map_cons, List.map_nil, List.length_cons, List.length_nil, List.cons_append, List.nil_append, Nat.reduceAdd, Nat.reduceSub, Nat.reduceLeDiff, List.replicate_succ, List.replicate_zero, List.getElem?_cons_succ, List.getElem?_cons_zero, List.set_cons_succ, List.set_cons_zero, true_and, and_true, if_true, if_false, ↓reduceIte, Nat.le_refl, Value.category, va_up_app, eq_self, stp, Nat.reduceBEq, Bool.or_false, Bool.false_or, Bool.true_or, Bool.or_true, or_true, true_or, bx_uu, implies_true, true_implies, not_true, not_false_eq_true, false_implies, and_self, Nat.reduceLT, Int32.reduceAdd, Int32.reduceSub, Int32.reduceMul, Int32.reduceLE, Int32.reduceLT, Int32.reduceToNatClampNeg, va_rf_some, Bool.false_eq_true, k_X1_init_0 ca, k_X1_init_1 ca, k_X1_init_4 ca, k_X1_init_5 ca, k_X1_init_8 ca, k_X1_init_9 ca, k_X1_init_12 ca, k_X1_init_15 ca, k_X1_init_16 ca, k_X1_init_19 ca, k_X1_init_21 ca, k_X1_init_24 ca, k_X1_init_25 ca, k_X1_init_28 ca, k_X1_init_30 ca, k_X1_init_33 ca, k_X1_init_34 ca, k_X1_init_37 ca, k_X1_init_39 ca, k_X1_init_42 ca, a2, d2]
  try clear hF hF0 F
  intro q3 hq3
  have hq3 : va_up (va_up H2 q2 (some (.inl (ca 0, 1501, .inl (fun _ => 0))))) a (some (.inr (1, [.ref st, .ref q1, .ref q2, .null, .int 0, .int 0, .int 0, .int 0]))) q3 = none := hq3
  have B6 : Bk h (va_up (va_up H2 q2 (some (.inl (ca 0, 1501, .inl (fun _ => 0))))) a (some (.inr (1, [.ref st, .ref q1, .ref q2, .null, .int 0, .int 0, .int 0, .int 0])))) (Qa (Qa (Qa (fun _ => a) 1 c) 23 (fun _ => q1)) 24 (fun _ => q2)) 25 := B5.up (i := 0) (by decide) _
  have hS3 : SAt ca (va_up (va_up H2 q2 (some (.inl (ca 0, 1501, .inl (fun _ => 0))))) a (some (.inr (1, [.ref st, .ref q1, .ref q2, .null, .int 0, .int 0, .int 0, .int 0])))) c s0 := SAt_kept hS2 (fun j hj => (va_up_ne _ _ (ca0 j hj)).trans (va_up_ne _ _ (c2 j hj)))
  have hx3 : ∀ j, j < 22 → ∃ e, va_up (va_up H2 q2 (some (.inl (ca 0, 1501, .inl (fun _ => 0))))) a (some (.inr (1, [.ref st, .ref q1, .ref q2, .null, .int 0, .int 0, .int 0, .int 0]))) (c j) = some e := fun j hj => by rw [va_up_ne _ _ (ca0 j hj), va_up_ne _ _ (c2 j hj)]; exact hx2 j hj
  have a3 : va_up (va_up H2 q2 (some (.inl (ca 0, 1501, .inl (fun _ => 0))))) a (some (.inr (1, [.ref st, .ref q1, .ref q2, .null, .int 0, .int 0, .int 0, .int 0]))) a = some (.inr (1, [.ref st, .ref q1, .ref q2, .null, .int 0, .int 0, .int 0, .int 0])) := va_up_self _ _ _
  have b3 : va_up (va_up H2 q2 (some (.inl (ca 0, 1501, .inl (fun _ => 0))))) a (some (.inr (1, [.ref st, .ref q1, .ref q2, .null, .int 0, .int 0, .int 0, .int 0]))) q1 = some (.inl (ca 1, 1501, .inr (.inl (fun _ => 0)))) := (va_up_ne _ _ (fun z => d1 z.symm)).trans ((va_up_ne _ _ d12).trans b2)
  have b3' : va_up (va_up H2 q2 (some (.inl (ca 0, 1501, .inl (fun _ => 0))))) a (some (.inr (1, [.ref st, .ref q1, .ref q2, .null, .int 0, .int 0, .int 0, .int 0]))) q2 = some (.inl (ca 0, 1501, .inl (fun _ => 0))) := (va_up_ne _ _ (fun z => d2 z.symm)).trans (va_up_self _ _ _)
  generalize va_up (va_up H2 q2 (some (.inl (ca 0, 1501, .inl (fun _ => 0))))) a (some (.inr (1, [.ref st, .ref q1, .ref q2, .null, .int 0, .int 0, .int 0, .int 0]))) = H3 at *
  have B7 := B6.new (by decide) hq3 (.inl (ca 0, 4096, .inl (fun _ => 0)))
  have d3 : ¬ a = q3 := ne_none a3 hq3
  have d13 : ¬ q1 = q3 := ne_none b3 hq3
  have d23 : ¬ q2 = q3 := ne_none b3' hq3
  have c3 : ∀ j, j < 22 → ¬ c j = q3 := fun j hj => by obtain ⟨e, he⟩ := hx3 j hj; exact ne_none he hq3
  have B8 := B7.up (i := 0) (by decide) (.inr (1, [.ref st, .ref q1, .ref q2, .ref q3, .int 0, .int 0, .int 0, .int 0]))
  have hst1 : Qa (Qa (Qa (Qa (fun _ => a) 1 c) 23 (fun _ => q1)) 24 (fun _ => q2)) 25 (fun _ => q3) 1 = st := hc
  have k0 := hs _ (Qa (Qa (Qa (Qa (fun _ => a) 1 c) 23 (fun _ => q1)) 24 (fun _ => q2)) 25 (fun _ => q3)) rfl ⟨B8, by rw [hst1]; exact va_up_self _ _ _, SAt_b (b := c) (fun j hj => by rw [Qa_lt (by omega), Qa_lt (by omega), Qa_lt (by omega), Qa_ge (by omega), Nat.add_sub_cancel_left]) (SAt_kept hS3 (fun j hj => (va_up_ne _ _ (ca0 j hj)).trans (va_up_ne _ _ (c3 j hj)))), (va_up_ne _ _ (fun z => d1 z.symm)).trans ((va_up_ne _ _ d13).trans b3), (va_up_ne _ _ (fun z => d2 z.symm)).trans ((va_up_ne _ _ d23).trans b3'), (va_up_ne _ _ (fun z => d3 z.symm)).trans (va_up_self _ _ _)⟩
  refine goN go (stp []) 160 _ _ _ _ _ _ (fun F hF hF0 => ?_)
  simp only [hF, hF0, ite_not, i_push, i_iload, i_lload, i_aload, i_istore, i_astore, i_lstore, i_iinc, i_bin, i_dv, i_un, i_lbin, i_lsh, i_i2l, i_l2i, i_lcmp, i_dup, i_dup2, i_pop, i_if, i_icmp, i_goto, swG, i_sw, i_getf, i_puti, i_putz, i_putr, i_ald, i_lald, i_aald, i_ast, i_last, i_aast, i_alen, i_new, i_newi, i_newl, i_newq, i_oinit, i_ret, i_zret, i_lret, i_vret, catS, tk, rpush, isO, i_m1, i_m2, i_acopy, i_callV, i_callS, KRet, lget, lput, lputL, lcl0, isL, lv0, List.map_cons, List.map_nil, List.length_cons, List.length_nil, List.cons_append, List.nil_append, Nat.reduceAdd, Nat.reduceSub, Nat.reduceLeDiff, List.replicate_succ, List.replicate_zero, List.getElem?_cons_succ, List.getElem?_cons_zero, List.set_cons_succ, List.set_cons_zero, true_and, and_true, if_true, if_false, ↓reduceIte, Nat.le_refl, Value.category, va_up_app, eq_self, stp, Nat.reduceBEq, Bool.or_false, Bool.false_or, Bool.true_or, Bool.or_true, or_true, true_or, bx_uu, implies_true, true_implies, not_true, not_false_eq_true, false_implies, and_self, Nat.reduceLT, Int32.reduceAdd, Int32.reduceSub, Int32.reduceMul, Int32.reduceLE, Int32.reduceLT, Int32.reduceToNatClampNeg, va_rf_some, Bool.false_eq_true, k_X1_init_0 ca, k_X1_init_1 ca, k_X1_init_4 ca, k_X1_init_5 ca, k_X1_init_8 ca, k_X1_init_9 ca, k_X1_init_12 ca, k_X1_init_15 ca, k_X1_init_16 ca, k_X1_init_19 ca, k_X1_init_21 ca, k_X1_init_24 ca, k_X1_init_25 ca, k_X1_init_28 ca, k_X1_init_30 ca, k_X1_init_33 ca, k_X1_init_34 ca, k_X1_init_37 ca, k_X1_init_39 ca, k_X1_init_42 ca, a3, d3]
  try clear hF hF0 F
  exact k0

