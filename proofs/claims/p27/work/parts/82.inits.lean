/-! blocks of new cells; constructors of Strip, Room, Text, StackFinder -/
/-- from h to H, n cells Q 0 .. are there now: Q 0 was, the others are new; no other cell has changed -/
def Bk (h H : PH) (Q : Nat → Nat) (n : Nat) : Prop := (∀ i j, i < n → j < n → Q i = Q j → i = j) ∧ (∀ i, 0 < i → i < n → h (Q i) = none) ∧ (∀ i, i < n → ∃ e, H (Q i) = some e) ∧ (∀ x e, ¬ x = Q 0 → h x = some e → H x = some e)
def Qa (Q : Nat → Nat) (n : Nat) (c : Nat → Nat) : Nat → Nat := fun i => if i < n then Q i else c (i - n)
section
variable {h H H1 H2 : PH} {Q c : Nat → Nat} {n m a q : Nat} {e : va_E}
theorem Bk.one (ha : h a = some e) : Bk h h (fun _ => a) 1 := ⟨fun i j hi hj _ => by omega, fun i h0 hi => absurd hi (by omega), fun i _ => ⟨e, ha⟩, fun x e' _ hx => hx⟩
theorem Bk.fr (B : Bk h H Q n) (hn : 0 < n) (hq : H q = none) : h q = none := by
  cases z : h q with
  | none => rfl
  | some e' =>
    exfalso
    by_cases w : q = Q 0
    · obtain ⟨e2, h2⟩ := B.2.2.1 0 hn
      rw [w, h2] at hq
      cases hq
    · rw [B.2.2.2 q e' w z] at hq
      cases hq
theorem ne_none (hx : H a = some e) (hq : H q = none) : ¬ a = q := fun z => by rw [z, hq] at hx; cases hx
theorem Bk.ne (B : Bk h H Q n) (hq : H q = none) {i : Nat} (hi : i < n) : ¬ Q i = q := by
  obtain ⟨e', h'⟩ := B.2.2.1 i hi
  exact ne_none h' hq
theorem Bk.new (B : Bk h H Q n) (hn : 0 < n) (hq : H q = none) (e : va_E) : Bk h (va_up H q (some e)) (Qa Q n (fun _ => q)) (n + 1) := by
  have hf := B.fr hn hq
  refine ⟨fun i j hi hj hij => ?_, fun i h0 hi => ?_, fun i hi => ?_, fun x e' hx hh => ?_⟩
  · unfold Qa at hij
    by_cases q1 : i < n
    · rw [if_pos q1] at hij
      by_cases q2 : j < n
      · rw [if_pos q2] at hij; exact B.1 i j q1 q2 hij
      · rw [if_neg q2] at hij; exact absurd hij (B.ne hq q1)
    · rw [if_neg q1] at hij
      by_cases q2 : j < n
      · rw [if_pos q2] at hij; exact absurd hij.symm (B.ne hq q2)
      · omega
  · unfold Qa
    by_cases q1 : i < n
    · rw [if_pos q1]; exact B.2.1 i h0 q1
    · rw [if_neg q1]; exact hf
  · unfold Qa
    by_cases q1 : i < n
    · rw [if_pos q1, va_up_ne _ _ (B.ne hq q1)]; exact B.2.2.1 i q1
    · rw [if_neg q1, va_up_self]; exact ⟨e, rfl⟩
  · have hx0 : ¬ x = Q 0 := by unfold Qa at hx; rw [if_pos hn] at hx; exact hx
    rw [va_up_ne _ _ (ne_none hh hf)]
    exact B.2.2.2 x e' hx0 hh
theorem Bk.up (B : Bk h H Q n) {i : Nat} (hi : i < n) (e : va_E) : Bk h (va_up H (Q i) (some e)) Q n := by
  refine ⟨B.1, B.2.1, fun j hj => ?_, fun x e' hx hh => ?_⟩
  · by_cases q1 : Q j = Q i
    · rw [q1, va_up_self]; exact ⟨e, rfl⟩
    · rw [va_up_ne _ _ q1]; exact B.2.2.1 j hj
  · have hne : ¬ x = Q i := fun z => by
      by_cases w : i = 0
      · rw [w] at z; exact hx z
      · have := B.2.1 i (by omega) hi
        rw [← z, hh] at this
        cases this
    rw [va_up_ne _ _ hne]
    exact B.2.2.2 x e' hx hh
theorem Bk.app (B : Bk h H Q n) (hn : 0 < n) (hq : H q = none) {e0 : va_E} (C : Bk (va_up H q (some e0)) H2 c m) (hm : 0 < m) (hc : c 0 = q) : Bk h H2 (Qa Q n c) (n + m) := by
  have hcf : ∀ i, i < m → H (c i) = none := fun i hi => by
    by_cases w : i = 0
    · rw [w, hc]; exact hq
    · have := C.2.1 i (by omega) hi
      by_cases w2 : c i = q
      · rw [w2, va_up_self] at this; cases this
      · rw [va_up_ne _ _ w2] at this; exact this
  have hkeep : ∀ x e', H x = some e' → H2 x = some e' := fun x e' hx => by
    have hne := ne_none hx hq
    exact C.2.2.2 x e' (by rw [hc]; exact hne) (by rw [va_up_ne _ _ hne]; exact hx)
  refine ⟨fun i j hi hj hij => ?_, fun i h0 hi => ?_, fun i hi => ?_, fun x e' hx hh => ?_⟩
  · unfold Qa at hij
    by_cases q1 : i < n
    · rw [if_pos q1] at hij
      by_cases q2 : j < n
      · rw [if_pos q2] at hij; exact B.1 i j q1 q2 hij
      · rw [if_neg q2] at hij; exact absurd hij (B.ne (hcf _ (by omega)) q1)
    · rw [if_neg q1] at hij
      by_cases q2 : j < n
      · rw [if_pos q2] at hij; exact absurd hij.symm (B.ne (hcf _ (by omega)) q2)
      · rw [if_neg q2] at hij
        have := C.1 _ _ (by omega) (by omega) hij
        omega
  · unfold Qa
    by_cases q1 : i < n
    · rw [if_pos q1]; exact B.2.1 i h0 q1
    · rw [if_neg q1]; exact B.fr hn (hcf _ (by omega))
  · unfold Qa
    by_cases q1 : i < n
    · rw [if_pos q1]
      obtain ⟨e', h'⟩ := B.2.2.1 i q1
      exact ⟨e', hkeep _ _ h'⟩
    · rw [if_neg q1]; exact C.2.2.1 _ (by omega)
  · have hx0 : ¬ x = Q 0 := by unfold Qa at hx; rw [if_pos hn] at hx; exact hx
    exact hkeep x e' (B.2.2.2 x e' hx0 hh)
theorem Bk.keep (hq : H q = none) {e0 : va_E} (C : Bk (va_up H q (some e0)) H2 c m) (hc : c 0 = q) {x : Nat} {e' : va_E} (hx : H x = some e') : H2 x = some e' := by
  have hne := ne_none hx hq
  exact C.2.2.2 x e' (by rw [hc]; exact hne) (by rw [va_up_ne _ _ hne]; exact hx)
end
def zF : Nat → Int32 := fun _ => 0
def sp_X5_init (ca : Nat → ClassId) : SPEC := fun av h post => ∃ a, av = [.ref a] ∧ h a = some (.inr (5, [.null, .null, .null, .int 0, .int 0, .int 0, .int 0, .int 0, .int 0, .int 0, .int 0])) ∧
  ∀ H Q, Q 0 = a → Bk h H Q 4 → H (Q 0) = some (.inr (5, [.ref (Q 1), .ref (Q 2), .ref (Q 3), .int 0, .int 1000, .int 3000, .int 0, .int 0, .int 0, .int 0, .int 0])) → H (Q 1) = some (.inl (ca 0, 8, .inl zF)) → H (Q 2) = some (.inl (ca 0, 8, .inl zF)) → H (Q 3) = some (.inl (ca 0, 8, .inl zF)) → post none H
def k_X5_init (ca : Nat → ClassId) : Nat → IT := fun pc => lk pc [(0, i_aload 0 1),
  (1, i_oinit 4),
  (4, i_aload 0 5),
  (5, i_push (.int 8) 7),
  (7, i_newi 3 24 (ca 0) 8 9),
  (9, i_putr 5 0 12),
  (12, i_aload 0 13),
  (13, i_push (.int 8) 15),
  (15, i_newi 3 24 (ca 0) 8 17),
  (17, i_putr 5 1 20),
  (20, i_aload 0 21),
  (21, i_push (.int 8) 23),
  (23, i_newi 3 24 (ca 0) 8 25),
  (25, i_putr 5 2 28),
  (28, i_aload 0 29),
  (29, i_push (.int 1000) 32),
  (32, i_puti 5 4 35),
  (35, i_aload 0 36),
  (36, i_push (.int 3000) 39),
  (39, i_puti 5 5 42),
  (42, i_vret)]
set_option maxRecDepth 20000 in
theorem t_X5_init : Tb k_X5_init yX5_init cX5_init 1 none 1 3 24 := by
  intro l D ca A p e s m args below meth c post X
  unfold k_X5_init
  refine snd_cons (snd_aload_n X dX5_init_0 rfl) ?_
  refine snd_cons (snd_oinit X w_34 w_18 w_19 (by decide) (by decide) dX5_init_1) ?_
  refine snd_cons (snd_aload_n X dX5_init_4 rfl) ?_
  refine snd_cons (snd_bipush X dX5_init_5 (by decide)) ?_
  refine snd_cons (snd_newi X 0 (atype := .int) rfl rfl rfl rfl rfl w_83 (by decide) dX5_init_7) ?_
  refine snd_cons (snd_putr X Fk5 0 (by decide) rfl rfl (fun _ => ⟨rfl, rfl⟩) w_35 dX5_init_9) ?_
  refine snd_cons (snd_aload_n X dX5_init_12 rfl) ?_
  refine snd_cons (snd_bipush X dX5_init_13 (by decide)) ?_
  refine snd_cons (snd_newi X 0 (atype := .int) rfl rfl rfl rfl rfl w_83 (by decide) dX5_init_15) ?_
  refine snd_cons (snd_putr X Fk5 1 (by decide) rfl rfl (fun _ => ⟨rfl, rfl⟩) w_37 dX5_init_17) ?_
  refine snd_cons (snd_aload_n X dX5_init_20 rfl) ?_
  refine snd_cons (snd_bipush X dX5_init_21 (by decide)) ?_
  refine snd_cons (snd_newi X 0 (atype := .int) rfl rfl rfl rfl rfl w_83 (by decide) dX5_init_23) ?_
  refine snd_cons (snd_putr X Fk5 2 (by decide) rfl rfl (fun _ => ⟨rfl, rfl⟩) w_39 dX5_init_25) ?_
  refine snd_cons (snd_aload_n X dX5_init_28 rfl) ?_
  refine snd_cons (snd_sipush X dX5_init_29 (by decide)) ?_
  refine snd_cons (snd_puti X Fk5 4 (by decide) rfl rfl w_43 dX5_init_32) ?_
  refine snd_cons (snd_aload_n X dX5_init_35 rfl) ?_
  refine snd_cons (snd_sipush X dX5_init_36 (by decide)) ?_
  refine snd_cons (snd_puti X Fk5 5 (by decide) rfl rfl w_45 dX5_init_39) ?_
  refine snd_cons (snd_vret X dX5_init_42) ?_
  exact snd_nil
theorem k_X5_init_0 (ca : Nat → ClassId) : k_X5_init ca 0 = i_aload 0 1 := rfl
theorem k_X5_init_1 (ca : Nat → ClassId) : k_X5_init ca 1 = i_oinit 4 := rfl
theorem k_X5_init_4 (ca : Nat → ClassId) : k_X5_init ca 4 = i_aload 0 5 := rfl
theorem k_X5_init_5 (ca : Nat → ClassId) : k_X5_init ca 5 = i_push (.int 8) 7 := rfl
theorem k_X5_init_7 (ca : Nat → ClassId) : k_X5_init ca 7 = i_newi 3 24 (ca 0) 8 9 := rfl
theorem k_X5_init_9 (ca : Nat → ClassId) : k_X5_init ca 9 = i_putr 5 0 12 := rfl
theorem k_X5_init_12 (ca : Nat → ClassId) : k_X5_init ca 12 = i_aload 0 13 := rfl
theorem k_X5_init_13 (ca : Nat → ClassId) : k_X5_init ca 13 = i_push (.int 8) 15 := rfl
theorem k_X5_init_15 (ca : Nat → ClassId) : k_X5_init ca 15 = i_newi 3 24 (ca 0) 8 17 := rfl
theorem k_X5_init_17 (ca : Nat → ClassId) : k_X5_init ca 17 = i_putr 5 1 20 := rfl
theorem k_X5_init_20 (ca : Nat → ClassId) : k_X5_init ca 20 = i_aload 0 21 := rfl
theorem k_X5_init_21 (ca : Nat → ClassId) : k_X5_init ca 21 = i_push (.int 8) 23 := rfl
theorem k_X5_init_23 (ca : Nat → ClassId) : k_X5_init ca 23 = i_newi 3 24 (ca 0) 8 25 := rfl
theorem k_X5_init_25 (ca : Nat → ClassId) : k_X5_init ca 25 = i_putr 5 2 28 := rfl
theorem k_X5_init_28 (ca : Nat → ClassId) : k_X5_init ca 28 = i_aload 0 29 := rfl
theorem k_X5_init_29 (ca : Nat → ClassId) : k_X5_init ca 29 = i_push (.int 1000) 32 := rfl
theorem k_X5_init_32 (ca : Nat → ClassId) : k_X5_init ca 32 = i_puti 5 4 35 := rfl
theorem k_X5_init_35 (ca : Nat → ClassId) : k_X5_init ca 35 = i_aload 0 36 := rfl
theorem k_X5_init_36 (ca : Nat → ClassId) : k_X5_init ca 36 = i_push (.int 3000) 39 := rfl
theorem k_X5_init_39 (ca : Nat → ClassId) : k_X5_init ca 39 = i_puti 5 5 42 := rfl
theorem k_X5_init_42 (ca : Nat → ClassId) : k_X5_init ca 42 = i_vret := rfl
set_option maxHeartbeats 4000000 in
set_option maxRecDepth 20000 in
theorem ok_X5_init (l : Launch) (D : va_G) (ca : Nat → ClassId) : OkAll l D ca yX5_init cX5_init 1 none 1 3 24 (sp_X5_init ca) := by
  intro av h post hs
  obtain ⟨a, rfl, ha, hs⟩ := hs
  refine okM_of t_X5_init (by decide +kernel) (c1_ref c1_nil) (Nat.le_of_ble_eq_true rfl) ?_
  intro K go
  refine goN go (stp [9]) 160 _ _ _ _ _ _ (fun F hF hF0 => ?_)
  simp only [hF, hF0, ite_not, i_push, i_iload, i_lload, i_aload, i_istore, i_astore, i_lstore, i_iinc, i_bin, i_dv, i_un, i_lbin, i_lsh, i_i2l, i_l2i, i_lcmp, i_dup, i_dup2, i_pop, i_if, i_icmp, i_goto, swG, i_sw, i_getf, i_puti, i_putz, i_putr, i_ald, i_lald, i_aald, i_ast, i_last, i_aast, i_alen, i_new, i_newi, i_newl, i_newq, i_oinit, i_ret, i_zret, i_lret, i_vret, catS, tk, rpush, isO, i_m1, i_m2, i_acopy, i_callV, i_callS, KRet, lget, lput, lputL, lcl0, isL, lv0, List.map_cons, List.map_nil, List.length_cons, List.length_nil, List.cons_append, List.nil_append, Nat.reduceAdd, Nat.reduceSub, Nat.reduceLeDiff, List.replicate_succ, List.replicate_zero, List.getElem?_cons_succ, List.getElem?_cons_zero, List.set_cons_succ, List.set_cons_zero, true_and, and_true, if_true, if_false, ↓reduceIte, Nat.le_refl, Value.category, va_up_app, eq_self, stp, Nat.reduceBEq, Bool.or_false, Bool.false_or, Bool.true_or, Bool.or_true, or_true, true_or, bx_uu, implies_true, true_implies, not_true, not_false_eq_true, false_implies, and_self, Nat.reduceLT, Int32.reduceAdd, Int32.reduceSub, Int32.reduceMul, Int32.reduceLE, Int32.reduceLT, Int32.reduceToNatClampNeg, va_rf_some, Bool.false_eq_true, k_X5_init_0 ca, k_X5_init_1 ca, k_X5_init_4 ca, k_X5_init_5 ca, k_X5_init_7 ca, k_X5_init_9 ca, k_X5_init_12 ca, k_X5_init_13 ca, k_X5_init_15 ca, k_X5_init_17 ca, k_X5_init_20 ca, k_X5_init_21 ca, k_X5_init_23 ca, k_X5_init_25 ca, k_X5_init_28 ca, k_X5_init_29 ca, k_X5_init_32 ca, k_X5_init_35 ca, k_X5_init_36 ca, k_X5_init_39 ca, k_X5_init_42 ca, ha]
  try clear hF hF0 F
  intro q1 hq1
  have B1 := (Bk.one ha).new (by decide) hq1 (.inl (ca 0, 8, .inl zF))
  have d1 : ¬ a = q1 := ne_none ha hq1
  refine goN go (stp [17]) 160 _ _ _ _ _ _ (fun F hF hF0 => ?_)
  simp only [hF, hF0, ite_not, i_push, i_iload, i_lload, i_aload, i_istore, i_astore, i_lstore, i_iinc, i_bin, i_dv, i_un, i_lbin, i_lsh, i_i2l, i_l2i, i_lcmp, i_dup, i_dup2, i_pop, i_if, i_icmp, i_goto, swG, i_sw, i_getf, i_puti, i_putz, i_putr, i_ald, i_lald, i_aald, i_ast, i_last, i_aast, i_alen, i_new, i_newi, i_newl, i_newq, i_oinit, i_ret, i_zret, i_lret, i_vret, catS, tk, rpush, isO, i_m1, i_m2, i_acopy, i_callV, i_callS, KRet, lget, lput, lputL, lcl0, isL, lv0, List.map_cons, List.map_nil, List.length_cons, List.length_nil, List.cons_append, List.nil_append, Nat.reduceAdd, Nat.reduceSub, Nat.reduceLeDiff, List.replicate_succ, List.replicate_zero, List.getElem?_cons_succ, List.getElem?_cons_zero, List.set_cons_succ, List.set_cons_zero, true_and, and_true, if_true, if_false, ↓reduceIte, Nat.le_refl, Value.category, va_up_app, eq_self, stp, Nat.reduceBEq, Bool.or_false, Bool.false_or, Bool.true_or, Bool.or_true, or_true, true_or, bx_uu, implies_true, true_implies, not_true, not_false_eq_true, false_implies, and_self, Nat.reduceLT, Int32.reduceAdd, Int32.reduceSub, Int32.reduceMul, Int32.reduceLE, Int32.reduceLT, Int32.reduceToNatClampNeg, va_rf_some, Bool.false_eq_true, k_X5_init_0 ca, k_X5_init_1 ca, k_X5_init_4 ca, k_X5_init_5 ca, k_X5_init_7 ca, k_X5_init_9 ca, k_X5_init_12 ca, k_X5_init_13 ca, k_X5_init_15 ca, k_X5_init_17 ca, k_X5_init_20 ca, k_X5_init_21 ca, k_X5_init_23 ca, k_X5_init_25 ca, k_X5_init_28 ca, k_X5_init_29 ca, k_X5_init_32 ca, k_X5_init_35 ca, k_X5_init_36 ca, k_X5_init_39 ca, k_X5_init_42 ca, ha, d1]
  try clear hF hF0 F
  intro q2 hq2
  have B2' := B1.up (i := 0) (by decide) (.inr (5, [.ref q1, .null, .null, .int 0, .int 0, .int 0, .int 0, .int 0, .int 0, .int 0, .int 0]))
  have hq2' : va_up (va_up h q1 (some (.inl (ca 0, 8, .inl zF)))) a (some (.inr (5, [.ref q1, .null, .null, .int 0, .int 0, .int 0, .int 0, .int 0, .int 0, .int 0, .int 0]))) q2 = none := hq2
  have B2 := B2'.new (by decide) hq2' (.inl (ca 0, 8, .inl zF))
  have d2 : ¬ a = q2 := ne_none (va_up_self _ _ _) hq2'
  have d12 : ¬ q1 = q2 := ne_none ((va_up_ne _ _ (fun z => d1 z.symm)).trans (va_up_self _ _ _)) hq2'
  refine goN go (stp [25]) 160 _ _ _ _ _ _ (fun F hF hF0 => ?_)
  simp only [hF, hF0, ite_not, i_push, i_iload, i_lload, i_aload, i_istore, i_astore, i_lstore, i_iinc, i_bin, i_dv, i_un, i_lbin, i_lsh, i_i2l, i_l2i, i_lcmp, i_dup, i_dup2, i_pop, i_if, i_icmp, i_goto, swG, i_sw, i_getf, i_puti, i_putz, i_putr, i_ald, i_lald, i_aald, i_ast, i_last, i_aast, i_alen, i_new, i_newi, i_newl, i_newq, i_oinit, i_ret, i_zret, i_lret, i_vret, catS, tk, rpush, isO, i_m1, i_m2, i_acopy, i_callV, i_callS, KRet, lget, lput, lputL, lcl0, isL, lv0, List.map_cons, List.map_nil, List.length_cons, List.length_nil, List.cons_append, List.nil_append, Nat.reduceAdd, Nat.reduceSub, Nat.reduceLeDiff, List.replicate_succ, List.replicate_zero, List.getElem?_cons_succ, List.getElem?_cons_zero, List.set_cons_succ, List.set_cons_zero, true_and, and_true, if_true, if_false, ↓reduceIte, Nat.le_refl, Value.category, va_up_app, eq_self, stp, Nat.reduceBEq, Bool.or_false, Bool.false_or, Bool.true_or, Bool.or_true, or_true, true_or, bx_uu, implies_true, true_implies, not_true, not_false_eq_true, false_implies, and_self, Nat.reduceLT, Int32.reduceAdd, Int32.reduceSub, Int32.reduceMul, Int32.reduceLE, Int32.reduceLT, Int32.reduceToNatClampNeg, va_rf_some, Bool.false_eq_true, k_X5_init_0 ca, k_X5_init_1 ca, k_X5_init_4 ca, k_X5_init_5 ca, k_X5_init_7 ca, k_X5_init_9 ca, k_X5_init_12 ca, k_X5_init_13 ca, k_X5_init_15 ca, k_X5_init_17 ca, k_X5_init_20 ca, k_X5_init_21 ca, k_X5_init_23 ca, k_X5_init_25 ca, k_X5_init_28 ca, k_X5_init_29 ca, k_X5_init_32 ca, k_X5_init_35 ca, k_X5_init_36 ca, k_X5_init_39 ca, k_X5_init_42 ca, ha, d1, d2]
  try clear hF hF0 F
  intro q3 hq3
  have B3' := B2.up (i := 0) (by decide) (.inr (5, [.ref q1, .ref q2, .null, .int 0, .int 0, .int 0, .int 0, .int 0, .int 0, .int 0, .int 0]))
  have hq3' : va_up (va_up (va_up (va_up h q1 (some (.inl (ca 0, 8, .inl zF)))) a (some (.inr (5, [.ref q1, .null, .null, .int 0, .int 0, .int 0, .int 0, .int 0, .int 0, .int 0, .int 0])))) q2 (some (.inl (ca 0, 8, .inl zF)))) a (some (.inr (5, [.ref q1, .ref q2, .null, .int 0, .int 0, .int 0, .int 0, .int 0, .int 0, .int 0, .int 0]))) q3 = none := hq3
  have B3 := B3'.new (by decide) hq3' (.inl (ca 0, 8, .inl zF))
  have d3 : ¬ a = q3 := ne_none (va_up_self _ _ _) hq3'
  have d23 : ¬ q2 = q3 := ne_none ((va_up_ne _ _ (fun z => d2 z.symm)).trans (va_up_self _ _ _)) hq3'
  have d13 : ¬ q1 = q3 := ne_none ((va_up_ne _ _ (fun z => d1 z.symm)).trans ((va_up_ne _ _ d12).trans ((va_up_ne _ _ (fun z => d1 z.symm)).trans (va_up_self _ _ _)))) hq3'
  have B4 := B3.up (i := 0) (by decide) (.inr (5, [.ref q1, .ref q2, .ref q3, .int 0, .int 1000, .int 3000, .int 0, .int 0, .int 0, .int 0, .int 0]))
  have k0 := hs _ _ rfl B4 (va_up_self _ _ _) ((va_up_ne _ _ (fun z => d1 z.symm)).trans ((va_up_ne _ _ d13).trans ((va_up_ne _ _ (fun z => d1 z.symm)).trans ((va_up_ne _ _ d12).trans ((va_up_ne _ _ (fun z => d1 z.symm)).trans (va_up_self _ _ _)))))) ((va_up_ne _ _ (fun z => d2 z.symm)).trans ((va_up_ne _ _ d23).trans ((va_up_ne _ _ (fun z => d2 z.symm)).trans (va_up_self _ _ _)))) ((va_up_ne _ _ (fun z => d3 z.symm)).trans (va_up_self _ _ _))
  refine goN go (stp []) 160 _ _ _ _ _ _ (fun F hF hF0 => ?_)
  simp only [hF, hF0, ite_not, i_push, i_iload, i_lload, i_aload, i_istore, i_astore, i_lstore, i_iinc, i_bin, i_dv, i_un, i_lbin, i_lsh, i_i2l, i_l2i, i_lcmp, i_dup, i_dup2, i_pop, i_if, i_icmp, i_goto, swG, i_sw, i_getf, i_puti, i_putz, i_putr, i_ald, i_lald, i_aald, i_ast, i_last, i_aast, i_alen, i_new, i_newi, i_newl, i_newq, i_oinit, i_ret, i_zret, i_lret, i_vret, catS, tk, rpush, isO, i_m1, i_m2, i_acopy, i_callV, i_callS, KRet, lget, lput, lputL, lcl0, isL, lv0, List.map_cons, List.map_nil, List.length_cons, List.length_nil, List.cons_append, List.nil_append, Nat.reduceAdd, Nat.reduceSub, Nat.reduceLeDiff, List.replicate_succ, List.replicate_zero, List.getElem?_cons_succ, List.getElem?_cons_zero, List.set_cons_succ, List.set_cons_zero, true_and, and_true, if_true, if_false, ↓reduceIte, Nat.le_refl, Value.category, va_up_app, eq_self, stp, Nat.reduceBEq, Bool.or_false, Bool.false_or, Bool.true_or, Bool.or_true, or_true, true_or, bx_uu, implies_true, true_implies, not_true, not_false_eq_true, false_implies, and_self, Nat.reduceLT, Int32.reduceAdd, Int32.reduceSub, Int32.reduceMul, Int32.reduceLE, Int32.reduceLT, Int32.reduceToNatClampNeg, va_rf_some, Bool.false_eq_true, k_X5_init_0 ca, k_X5_init_1 ca, k_X5_init_4 ca, k_X5_init_5 ca, k_X5_init_7 ca, k_X5_init_9 ca, k_X5_init_12 ca, k_X5_init_13 ca, k_X5_init_15 ca, k_X5_init_17 ca, k_X5_init_20 ca, k_X5_init_21 ca, k_X5_init_23 ca, k_X5_init_25 ca, k_X5_init_28 ca, k_X5_init_29 ca, k_X5_init_32 ca, k_X5_init_35 ca, k_X5_init_36 ca, k_X5_init_39 ca, k_X5_init_42 ca, ha, d1, d2, d3]
  try clear hF hF0 F
  exact k0
def sp_X2_init (_ : Nat → ClassId) : SPEC := fun av h post => ∃ a, av = [.ref a] ∧ h a = some (.inr (2, [.int 0, .int 0, .int 0, .int 0, .int 0, .int 0, .int 0])) ∧ post none (va_up h a (some (.inr (2, [.int 200, .int 0, .int 20, .int 0, .int 0, .int (-500), .int 1500]))))
def k_X2_init (ca : Nat → ClassId) : Nat → IT := fun pc => lk pc [(0, i_aload 0 1),
  (1, i_oinit 4),
  (4, i_aload 0 5),
  (5, i_push (.int 200) 8),
  (8, i_puti 2 0 11),
  (11, i_aload 0 12),
  (12, i_push (.int 20) 14),
  (14, i_puti 2 2 17),
  (17, i_aload 0 18),
  (18, i_push (.int (-500)) 21),
  (21, i_puti 2 5 24),
  (24, i_aload 0 25),
  (25, i_push (.int 1500) 28),
  (28, i_puti 2 6 31),
  (31, i_vret)]
set_option maxRecDepth 20000 in
theorem t_X2_init : Tb k_X2_init yX2_init cX2_init 1 none 1 0 0 := by
  intro l D ca A p e s m args below meth c post X
  unfold k_X2_init
  refine snd_cons (snd_aload_n X dX2_init_0 rfl) ?_
  refine snd_cons (snd_oinit X w_88 w_18 w_19 (by decide) (by decide) dX2_init_1) ?_
  refine snd_cons (snd_aload_n X dX2_init_4 rfl) ?_
  refine snd_cons (snd_sipush X dX2_init_5 (by decide)) ?_
  refine snd_cons (snd_puti X Fk2 0 (by decide) rfl rfl w_89 dX2_init_8) ?_
  refine snd_cons (snd_aload_n X dX2_init_11 rfl) ?_
  refine snd_cons (snd_bipush X dX2_init_12 (by decide)) ?_
  refine snd_cons (snd_puti X Fk2 2 (by decide) rfl rfl w_95 dX2_init_14) ?_
  refine snd_cons (snd_aload_n X dX2_init_17 rfl) ?_
  refine snd_cons (snd_sipush X dX2_init_18 (by decide)) ?_
  refine snd_cons (snd_puti X Fk2 5 (by decide) rfl rfl w_103 dX2_init_21) ?_
  refine snd_cons (snd_aload_n X dX2_init_24 rfl) ?_
  refine snd_cons (snd_sipush X dX2_init_25 (by decide)) ?_
  refine snd_cons (snd_puti X Fk2 6 (by decide) rfl rfl w_105 dX2_init_28) ?_
  refine snd_cons (snd_vret X dX2_init_31) ?_
  exact snd_nil
theorem k_X2_init_0 (ca : Nat → ClassId) : k_X2_init ca 0 = i_aload 0 1 := rfl
theorem k_X2_init_1 (ca : Nat → ClassId) : k_X2_init ca 1 = i_oinit 4 := rfl
theorem k_X2_init_4 (ca : Nat → ClassId) : k_X2_init ca 4 = i_aload 0 5 := rfl
theorem k_X2_init_5 (ca : Nat → ClassId) : k_X2_init ca 5 = i_push (.int 200) 8 := rfl
theorem k_X2_init_8 (ca : Nat → ClassId) : k_X2_init ca 8 = i_puti 2 0 11 := rfl
theorem k_X2_init_11 (ca : Nat → ClassId) : k_X2_init ca 11 = i_aload 0 12 := rfl
theorem k_X2_init_12 (ca : Nat → ClassId) : k_X2_init ca 12 = i_push (.int 20) 14 := rfl
theorem k_X2_init_14 (ca : Nat → ClassId) : k_X2_init ca 14 = i_puti 2 2 17 := rfl
theorem k_X2_init_17 (ca : Nat → ClassId) : k_X2_init ca 17 = i_aload 0 18 := rfl
theorem k_X2_init_18 (ca : Nat → ClassId) : k_X2_init ca 18 = i_push (.int (-500)) 21 := rfl
theorem k_X2_init_21 (ca : Nat → ClassId) : k_X2_init ca 21 = i_puti 2 5 24 := rfl
theorem k_X2_init_24 (ca : Nat → ClassId) : k_X2_init ca 24 = i_aload 0 25 := rfl
theorem k_X2_init_25 (ca : Nat → ClassId) : k_X2_init ca 25 = i_push (.int 1500) 28 := rfl
theorem k_X2_init_28 (ca : Nat → ClassId) : k_X2_init ca 28 = i_puti 2 6 31 := rfl
theorem k_X2_init_31 (ca : Nat → ClassId) : k_X2_init ca 31 = i_vret := rfl
set_option maxHeartbeats 4000000 in
set_option maxRecDepth 20000 in
theorem ok_X2_init (l : Launch) (D : va_G) (ca : Nat → ClassId) : OkAll l D ca yX2_init cX2_init 1 none 1 0 0 (sp_X2_init ca) := by
  intro av h post hs
  obtain ⟨a, rfl, ha, hs⟩ := hs
  refine okM_of t_X2_init (by decide +kernel) (c1_ref c1_nil) (Nat.le_of_ble_eq_true rfl) ?_
  intro K go
  refine goN go (stp []) 160 _ _ _ _ _ _ (fun F hF hF0 => ?_)
  simp only [hF, hF0, ite_not, i_push, i_iload, i_lload, i_aload, i_istore, i_astore, i_lstore, i_iinc, i_bin, i_dv, i_un, i_lbin, i_lsh, i_i2l, i_l2i, i_lcmp, i_dup, i_dup2, i_pop, i_if, i_icmp, i_goto, swG, i_sw, i_getf, i_puti, i_putz, i_putr, i_ald, i_lald, i_aald, i_ast, i_last, i_aast, i_alen, i_new, i_newi, i_newl, i_newq, i_oinit, i_ret, i_zret, i_lret, i_vret, catS, tk, rpush, isO, i_m1, i_m2, i_acopy, i_callV, i_callS, KRet, lget, lput, lputL, lcl0, isL, lv0, List.map_cons, List.map_nil, List.length_cons, List.length_nil, List.cons_append, List.nil_append, Nat.reduceAdd, Nat.reduceSub, Nat.reduceLeDiff, List.replicate_succ, List.replicate_zero, List.getElem?_cons_succ, List.getElem?_cons_zero, List.set_cons_succ, List.set_cons_zero, true_and, and_true, if_true, if_false, ↓reduceIte, Nat.le_refl, Value.category, va_up_app, eq_self, stp, Nat.reduceBEq, Bool.or_false, Bool.false_or, Bool.true_or, Bool.or_true, or_true, true_or, bx_uu, implies_true, true_implies, not_true, not_false_eq_true, false_implies, and_self, Nat.reduceLT, Int32.reduceAdd, Int32.reduceSub, Int32.reduceMul, Int32.reduceLE, Int32.reduceLT, Int32.reduceToNatClampNeg, va_rf_some, Bool.false_eq_true, k_X2_init_0 ca, k_X2_init_1 ca, k_X2_init_4 ca, k_X2_init_5 ca, k_X2_init_8 ca, k_X2_init_11 ca, k_X2_init_12 ca, k_X2_init_14 ca, k_X2_init_17 ca, k_X2_init_18 ca, k_X2_init_21 ca, k_X2_init_24 ca, k_X2_init_25 ca, k_X2_init_28 ca, k_X2_init_31 ca, ha]
  try clear hF hF0 F
  exact hs
def sp_X6_init (ca : Nat → ClassId) : SPEC := fun av h post => ∃ a, av = [.ref a] ∧ h a = some (.inr (6, [.null, .int 0])) ∧
  ∀ H Q, Q 0 = a → Bk h H Q 2 → H (Q 0) = some (.inr (6, [.ref (Q 1), .int 0])) → H (Q 1) = some (.inl (ca 3, 60, .inl zF)) → post none H
def k_X6_init (ca : Nat → ClassId) : Nat → IT := fun pc => lk pc [(0, i_aload 0 1),
  (1, i_oinit 4),
  (4, i_aload 0 5),
  (5, i_push (.int 60) 7),
  (7, i_newi 1 60 (ca 3) 60 9),
  (9, i_putr 6 0 12),
  (12, i_vret)]
set_option maxRecDepth 20000 in
theorem t_X6_init : Tb k_X6_init yX6_init cX6_init 1 none 1 1 60 := by
  intro l D ca A p e s m args below meth c post X
  unfold k_X6_init
  refine snd_cons (snd_aload_n X dX6_init_0 rfl) ?_
  refine snd_cons (snd_oinit X w_179 w_18 w_19 (by decide) (by decide) dX6_init_1) ?_
  refine snd_cons (snd_aload_n X dX6_init_4 rfl) ?_
  refine snd_cons (snd_bipush X dX6_init_5 (by decide)) ?_
  refine snd_cons (snd_newi X 3 (atype := .char) rfl rfl rfl rfl rfl w_188 (by decide) dX6_init_7) ?_
  refine snd_cons (snd_putr X Fk6 0 (by decide) rfl rfl (fun _ => ⟨rfl, rfl⟩) w_180 dX6_init_9) ?_
  refine snd_cons (snd_vret X dX6_init_12) ?_
  exact snd_nil
theorem k_X6_init_0 (ca : Nat → ClassId) : k_X6_init ca 0 = i_aload 0 1 := rfl
theorem k_X6_init_1 (ca : Nat → ClassId) : k_X6_init ca 1 = i_oinit 4 := rfl
theorem k_X6_init_4 (ca : Nat → ClassId) : k_X6_init ca 4 = i_aload 0 5 := rfl
theorem k_X6_init_5 (ca : Nat → ClassId) : k_X6_init ca 5 = i_push (.int 60) 7 := rfl
theorem k_X6_init_7 (ca : Nat → ClassId) : k_X6_init ca 7 = i_newi 1 60 (ca 3) 60 9 := rfl
theorem k_X6_init_9 (ca : Nat → ClassId) : k_X6_init ca 9 = i_putr 6 0 12 := rfl
theorem k_X6_init_12 (ca : Nat → ClassId) : k_X6_init ca 12 = i_vret := rfl
set_option maxHeartbeats 4000000 in
set_option maxRecDepth 20000 in
theorem ok_X6_init (l : Launch) (D : va_G) (ca : Nat → ClassId) : OkAll l D ca yX6_init cX6_init 1 none 1 1 60 (sp_X6_init ca) := by
  intro av h post hs
  obtain ⟨a, rfl, ha, hs⟩ := hs
  refine okM_of t_X6_init (by decide +kernel) (c1_ref c1_nil) (Nat.le_of_ble_eq_true rfl) ?_
  intro K go
  refine goN go (stp [9]) 160 _ _ _ _ _ _ (fun F hF hF0 => ?_)
  simp only [hF, hF0, ite_not, i_push, i_iload, i_lload, i_aload, i_istore, i_astore, i_lstore, i_iinc, i_bin, i_dv, i_un, i_lbin, i_lsh, i_i2l, i_l2i, i_lcmp, i_dup, i_dup2, i_pop, i_if, i_icmp, i_goto, swG, i_sw, i_getf, i_puti, i_putz, i_putr, i_ald, i_lald, i_aald, i_ast, i_last, i_aast, i_alen, i_new, i_newi, i_newl, i_newq, i_oinit, i_ret, i_zret, i_lret, i_vret, catS, tk, rpush, isO, i_m1, i_m2, i_acopy, i_callV, i_callS, KRet, lget, lput, lputL, lcl0, isL, lv0, List.map_cons, List.map_nil, List.length_cons, List.length_nil, List.cons_append, List.nil_append, Nat.reduceAdd, Nat.reduceSub, Nat.reduceLeDiff, List.replicate_succ, List.replicate_zero, List.getElem?_cons_succ, List.getElem?_cons_zero, List.set_cons_succ, List.set_cons_zero, true_and, and_true, if_true, if_false, ↓reduceIte, Nat.le_refl, Value.category, va_up_app, eq_self, stp, Nat.reduceBEq, Bool.or_false, Bool.false_or, Bool.true_or, Bool.or_true, or_true, true_or, bx_uu, implies_true, true_implies, not_true, not_false_eq_true, false_implies, and_self, Nat.reduceLT, Int32.reduceAdd, Int32.reduceSub, Int32.reduceMul, Int32.reduceLE, Int32.reduceLT, Int32.reduceToNatClampNeg, va_rf_some, Bool.false_eq_true, k_X6_init_0 ca, k_X6_init_1 ca, k_X6_init_4 ca, k_X6_init_5 ca, k_X6_init_7 ca, k_X6_init_9 ca, k_X6_init_12 ca, ha]
  try clear hF hF0 F
  intro q1 hq1
  have B1 := (Bk.one ha).new (by decide) hq1 (.inl (ca 3, 60, .inl zF))
  have d1 : ¬ a = q1 := ne_none ha hq1
  have B2 := B1.up (i := 0) (by decide) (.inr (6, [.ref q1, .int 0]))
  have k0 := hs _ _ rfl B2 (va_up_self _ _ _) ((va_up_ne _ _ (fun z => d1 z.symm)).trans (va_up_self _ _ _))
  refine goN go (stp []) 160 _ _ _ _ _ _ (fun F hF hF0 => ?_)
  simp only [hF, hF0, ite_not, i_push, i_iload, i_lload, i_aload, i_istore, i_astore, i_lstore, i_iinc, i_bin, i_dv, i_un, i_lbin, i_lsh, i_i2l, i_l2i, i_lcmp, i_dup, i_dup2, i_pop, i_if, i_icmp, i_goto, swG, i_sw, i_getf, i_puti, i_putz, i_putr, i_ald, i_lald, i_aald, i_ast, i_last, i_aast, i_alen, i_new, i_newi, i_newl, i_newq, i_oinit, i_ret, i_zret, i_lret, i_vret, catS, tk, rpush, isO, i_m1, i_m2, i_acopy, i_callV, i_callS, KRet, lget, lput, lputL, lcl0, isL, lv0, List.map_cons, List.map_nil, List.length_cons, List.length_nil, List.cons_append, List.nil_append, Nat.reduceAdd, Nat.reduceSub, Nat.reduceLeDiff, List.replicate_succ, List.replicate_zero, List.getElem?_cons_succ, List.getElem?_cons_zero, List.set_cons_succ, List.set_cons_zero, true_and, and_true, if_true, if_false, ↓reduceIte, Nat.le_refl, Value.category, va_up_app, eq_self, stp, Nat.reduceBEq, Bool.or_false, Bool.false_or, Bool.true_or, Bool.or_true, or_true, true_or, bx_uu, implies_true, true_implies, not_true, not_false_eq_true, false_implies, and_self, Nat.reduceLT, Int32.reduceAdd, Int32.reduceSub, Int32.reduceMul, Int32.reduceLE, Int32.reduceLT, Int32.reduceToNatClampNeg, va_rf_some, Bool.false_eq_true, k_X6_init_0 ca, k_X6_init_1 ca, k_X6_init_4 ca, k_X6_init_5 ca, k_X6_init_7 ca, k_X6_init_9 ca, k_X6_init_12 ca, ha, d1]
  try clear hF hF0 F
  exact k0
def sp_X3_init (ca : Nat → ClassId) : SPEC := fun av h post => ∃ a, av = [.ref a] ∧ h a = some (.inr (3, [.null, .int 0, .null, .int 0, .null, .null])) ∧
  ∀ H Q, Q 0 = a → Bk h H Q 5 → H (Q 0) = some (.inr (3, [.ref (Q 1), .int 0, .ref (Q 2), .int 0, .ref (Q 3), .ref (Q 4)])) → H (Q 1) = some (.inl (ca 0, 6, .inl zF)) → H (Q 2) = some (.inl (ca 0, 36, .inl zF)) → H (Q 3) = some (.inl (ca 0, 271, .inl zF)) → H (Q 4) = some (.inl (ca 0, 541, .inl zF)) → post none H
def k_X3_init (ca : Nat → ClassId) : Nat → IT := fun pc => lk pc [(0, i_aload 0 1),
  (1, i_oinit 4),
  (4, i_aload 0 5),
  (5, i_push (.int 6) 7),
  (7, i_newi 4 854 (ca 0) 6 9),
  (9, i_putr 3 0 12),
  (12, i_aload 0 13),
  (13, i_push (.int 36) 15),
  (15, i_newi 4 854 (ca 0) 36 17),
  (17, i_putr 3 2 20),
  (20, i_aload 0 21),
  (21, i_push (.int 271) 24),
  (24, i_newi 4 854 (ca 0) 271 26),
  (26, i_putr 3 4 29),
  (29, i_aload 0 30),
  (30, i_push (.int 541) 33),
  (33, i_newi 4 854 (ca 0) 541 35),
  (35, i_putr 3 5 38),
  (38, i_vret)]
set_option maxRecDepth 20000 in
theorem t_X3_init : Tb k_X3_init yX3_init cX3_init 1 none 1 4 854 := by
  intro l D ca A p e s m args below meth c post X
  unfold k_X3_init
  refine snd_cons (snd_aload_n X dX3_init_0 rfl) ?_
  refine snd_cons (snd_oinit X w_232 w_18 w_19 (by decide) (by decide) dX3_init_1) ?_
  refine snd_cons (snd_aload_n X dX3_init_4 rfl) ?_
  refine snd_cons (snd_bipush X dX3_init_5 (by decide)) ?_
  refine snd_cons (snd_newi X 0 (atype := .int) rfl rfl rfl rfl rfl w_83 (by decide) dX3_init_7) ?_
  refine snd_cons (snd_putr X Fk3 0 (by decide) rfl rfl (fun _ => ⟨rfl, rfl⟩) w_233 dX3_init_9) ?_
  refine snd_cons (snd_aload_n X dX3_init_12 rfl) ?_
  refine snd_cons (snd_bipush X dX3_init_13 (by decide)) ?_
  refine snd_cons (snd_newi X 0 (atype := .int) rfl rfl rfl rfl rfl w_83 (by decide) dX3_init_15) ?_
  refine snd_cons (snd_putr X Fk3 2 (by decide) rfl rfl (fun _ => ⟨rfl, rfl⟩) w_234 dX3_init_17) ?_
  refine snd_cons (snd_aload_n X dX3_init_20 rfl) ?_
  refine snd_cons (snd_sipush X dX3_init_21 (by decide)) ?_
  refine snd_cons (snd_newi X 0 (atype := .int) rfl rfl rfl rfl rfl w_83 (by decide) dX3_init_24) ?_
  refine snd_cons (snd_putr X Fk3 4 (by decide) rfl rfl (fun _ => ⟨rfl, rfl⟩) w_235 dX3_init_26) ?_
  refine snd_cons (snd_aload_n X dX3_init_29 rfl) ?_
  refine snd_cons (snd_sipush X dX3_init_30 (by decide)) ?_
  refine snd_cons (snd_newi X 0 (atype := .int) rfl rfl rfl rfl rfl w_83 (by decide) dX3_init_33) ?_
  refine snd_cons (snd_putr X Fk3 5 (by decide) rfl rfl (fun _ => ⟨rfl, rfl⟩) w_236 dX3_init_35) ?_
  refine snd_cons (snd_vret X dX3_init_38) ?_
  exact snd_nil
theorem k_X3_init_0 (ca : Nat → ClassId) : k_X3_init ca 0 = i_aload 0 1 := rfl
theorem k_X3_init_1 (ca : Nat → ClassId) : k_X3_init ca 1 = i_oinit 4 := rfl
theorem k_X3_init_4 (ca : Nat → ClassId) : k_X3_init ca 4 = i_aload 0 5 := rfl
theorem k_X3_init_5 (ca : Nat → ClassId) : k_X3_init ca 5 = i_push (.int 6) 7 := rfl
theorem k_X3_init_7 (ca : Nat → ClassId) : k_X3_init ca 7 = i_newi 4 854 (ca 0) 6 9 := rfl
theorem k_X3_init_9 (ca : Nat → ClassId) : k_X3_init ca 9 = i_putr 3 0 12 := rfl
theorem k_X3_init_12 (ca : Nat → ClassId) : k_X3_init ca 12 = i_aload 0 13 := rfl
theorem k_X3_init_13 (ca : Nat → ClassId) : k_X3_init ca 13 = i_push (.int 36) 15 := rfl
theorem k_X3_init_15 (ca : Nat → ClassId) : k_X3_init ca 15 = i_newi 4 854 (ca 0) 36 17 := rfl
theorem k_X3_init_17 (ca : Nat → ClassId) : k_X3_init ca 17 = i_putr 3 2 20 := rfl
theorem k_X3_init_20 (ca : Nat → ClassId) : k_X3_init ca 20 = i_aload 0 21 := rfl
theorem k_X3_init_21 (ca : Nat → ClassId) : k_X3_init ca 21 = i_push (.int 271) 24 := rfl
theorem k_X3_init_24 (ca : Nat → ClassId) : k_X3_init ca 24 = i_newi 4 854 (ca 0) 271 26 := rfl
theorem k_X3_init_26 (ca : Nat → ClassId) : k_X3_init ca 26 = i_putr 3 4 29 := rfl
theorem k_X3_init_29 (ca : Nat → ClassId) : k_X3_init ca 29 = i_aload 0 30 := rfl
theorem k_X3_init_30 (ca : Nat → ClassId) : k_X3_init ca 30 = i_push (.int 541) 33 := rfl
theorem k_X3_init_33 (ca : Nat → ClassId) : k_X3_init ca 33 = i_newi 4 854 (ca 0) 541 35 := rfl
theorem k_X3_init_35 (ca : Nat → ClassId) : k_X3_init ca 35 = i_putr 3 5 38 := rfl
theorem k_X3_init_38 (ca : Nat → ClassId) : k_X3_init ca 38 = i_vret := rfl
set_option maxHeartbeats 4000000 in
set_option maxRecDepth 20000 in
theorem ok_X3_init (l : Launch) (D : va_G) (ca : Nat → ClassId) : OkAll l D ca yX3_init cX3_init 1 none 1 4 854 (sp_X3_init ca) := by
  intro av h post hs
  obtain ⟨a, rfl, ha, hs⟩ := hs
  refine okM_of t_X3_init (by decide +kernel) (c1_ref c1_nil) (Nat.le_of_ble_eq_true rfl) ?_
  intro K go
  have B0 := Bk.one ha
  refine goN go (stp [9]) 160 _ _ _ _ _ _ (fun F hF hF0 => ?_)
  simp only [hF, hF0, ite_not, i_push, i_iload, i_lload, i_aload, i_istore, i_astore, i_lstore, i_iinc, i_bin, i_dv, i_un, i_lbin, i_lsh, i_i2l, i_l2i, i_lcmp, i_dup, i_dup2, i_pop, i_if, i_icmp, i_goto, swG, i_sw, i_getf, i_puti, i_putz, i_putr, i_ald, i_lald, i_aald, i_ast, i_last, i_aast, i_alen, i_new, i_newi, i_newl, i_newq, i_oinit, i_ret, i_zret, i_lret, i_vret, catS, tk, rpush, isO, i_m1, i_m2, i_acopy, i_callV, i_callS, KRet, lget, lput, lputL, lcl0, isL, lv0, List.map_cons, List.map_nil, List.length_cons, List.length_nil, List.cons_append, List.nil_append, Nat.reduceAdd, Nat.reduceSub, Nat.reduceLeDiff, List.replicate_succ, List.replicate_zero, List.getElem?_cons_succ, List.getElem?_cons_zero, List.set_cons_succ, List.set_cons_zero, true_and, and_true, if_true, if_false, ↓reduceIte, Nat.le_refl, Value.category, va_up_app, eq_self, stp, Nat.reduceBEq, Bool.or_false, Bool.false_or, Bool.true_or, Bool.or_true, or_true, true_or, bx_uu, implies_true, true_implies, not_true, not_false_eq_true, false_implies, and_self, Nat.reduceLT, Int32.reduceAdd, Int32.reduceSub, Int32.reduceMul, Int32.reduceLE, Int32.reduceLT, Int32.reduceToNatClampNeg, va_rf_some, Bool.false_eq_true, k_X3_init_0 ca, k_X3_init_1 ca, k_X3_init_4 ca, k_X3_init_5 ca, k_X3_init_7 ca, k_X3_init_9 ca, k_X3_init_12 ca, k_X3_init_13 ca, k_X3_init_15 ca, k_X3_init_17 ca, k_X3_init_20 ca, k_X3_init_21 ca, k_X3_init_24 ca, k_X3_init_26 ca, k_X3_init_29 ca, k_X3_init_30 ca, k_X3_init_33 ca, k_X3_init_35 ca, k_X3_init_38 ca, ha]
  try clear hF hF0 F
  intro q1 hq1
  have B1 := B0.new (by decide) hq1 (.inl (ca 0, 6, .inl (fun _ => 0)))
  have d1 : ¬ a = q1 := ne_none ha hq1
  refine goN go (stp [17]) 160 _ _ _ _ _ _ (fun F hF hF0 => ?_)
  simp only [hF, hF0, ite_not, i_push, i_iload, i_lload, i_aload, i_istore, i_astore, i_lstore, i_iinc, i_bin, i_dv, i_un, i_lbin, i_lsh, i_i2l, i_l2i, i_lcmp, i_dup, i_dup2, i_pop, i_if, i_icmp, i_goto, swG, i_sw, i_getf, i_puti, i_putz, i_putr, i_ald, i_lald, i_aald, i_ast, i_last, i_aast, i_alen, i_new, i_newi, i_newl, i_newq, i_oinit, i_ret, i_zret, i_lret, i_vret, catS, tk, rpush, isO, i_m1, i_m2, i_acopy, i_callV, i_callS, KRet, lget, lput, lputL, lcl0, isL, lv0, List.map_cons, List.map_nil, List.length_cons, List.length_nil, List.cons_append, List.nil_append, Nat.reduceAdd, Nat.reduceSub, Nat.reduceLeDiff, List.replicate_succ, List.replicate_zero, List.getElem?_cons_succ, List.getElem?_cons_zero, List.set_cons_succ, List.set_cons_zero, true_and, and_true, if_true, if_false, ↓reduceIte, Nat.le_refl, Value.category, va_up_app, eq_self, stp, Nat.reduceBEq, Bool.or_false, Bool.false_or, Bool.true_or, Bool.or_true, or_true, true_or, bx_uu, implies_true, true_implies, not_true, not_false_eq_true, false_implies, and_self, Nat.reduceLT, Int32.reduceAdd, Int32.reduceSub, Int32.reduceMul, Int32.reduceLE, Int32.reduceLT, Int32.reduceToNatClampNeg, va_rf_some, Bool.false_eq_true, k_X3_init_0 ca, k_X3_init_1 ca, k_X3_init_4 ca, k_X3_init_5 ca, k_X3_init_7 ca, k_X3_init_9 ca, k_X3_init_12 ca, k_X3_init_13 ca, k_X3_init_15 ca, k_X3_init_17 ca, k_X3_init_20 ca, k_X3_init_21 ca, k_X3_init_24 ca, k_X3_init_26 ca, k_X3_init_29 ca, k_X3_init_30 ca, k_X3_init_33 ca, k_X3_init_35 ca, k_X3_init_38 ca, ha, d1]
  try clear hF hF0 F
  intro q2 hq2
  have hq2 : va_up (va_up h q1 (some (.inl (ca 0, 6, .inl (fun _ => 0))))) a (some (.inr (3, [.ref q1, .int 0, .null, .int 0, .null, .null]))) q2 = none := hq2
  have U1 : Bk h (va_up (va_up h q1 (some (.inl (ca 0, 6, .inl (fun _ => 0))))) a (some (.inr (3, [.ref q1, .int 0, .null, .int 0, .null, .null])))) (Qa (fun _ => a) 1 (fun _ => q1)) 2 := B1.up (i := 0) (by decide) (.inr (3, [.ref q1, .int 0, .null, .int 0, .null, .null]))
  generalize eH1 : va_up (va_up h q1 (some (.inl (ca 0, 6, .inl (fun _ => 0))))) a (some (.inr (3, [.ref q1, .int 0, .null, .int 0, .null, .null]))) = H1 at *
  have a1 : H1 a = some (.inr (3, [.ref q1, .int 0, .null, .int 0, .null, .null])) := by rw [← eH1]; exact va_up_self _ _ _
  have b1_q1 : H1 q1 = some (.inl (ca 0, 6, .inl (fun _ => 0))) := by rw [← eH1]; exact (va_up_ne _ _ (fun z => d1 z.symm)).trans (va_up_self _ _ _)
  clear eH1 B1
  have B2 := U1.new (by decide) hq2 (.inl (ca 0, 36, .inl (fun _ => 0)))
  have d2 : ¬ a = q2 := ne_none a1 hq2
  have d1_2 : ¬ q1 = q2 := ne_none b1_q1 hq2
  refine goN go (stp [26]) 160 _ _ _ _ _ _ (fun F hF hF0 => ?_)
  simp only [hF, hF0, ite_not, i_push, i_iload, i_lload, i_aload, i_istore, i_astore, i_lstore, i_iinc, i_bin, i_dv, i_un, i_lbin, i_lsh, i_i2l, i_l2i, i_lcmp, i_dup, i_dup2, i_pop, i_if, i_icmp, i_goto, swG, i_sw, i_getf, i_puti, i_putz, i_putr, i_ald, i_lald, i_aald, i_ast, i_last, i_aast, i_alen, i_new, i_newi, i_newl, i_newq, i_oinit, i_ret, i_zret, i_lret, i_vret, catS, tk, rpush, isO, i_m1, i_m2, i_acopy, i_callV, i_callS, KRet, lget, lput, lputL, lcl0, isL, lv0, List.map_cons, List.map_nil, List.length_cons, List.length_nil, List.cons_append, List.nil_append, Nat.reduceAdd, Nat.reduceSub, Nat.reduceLeDiff, List.replicate_succ, List.replicate_zero, List.getElem?_cons_succ, List.getElem?_cons_zero, List.set_cons_succ, List.set_cons_zero, true_and, and_true, if_true, if_false, ↓reduceIte, Nat.le_refl, Value.category, va_up_app, eq_self, stp, Nat.reduceBEq, Bool.or_false, Bool.false_or, Bool.true_or, Bool.or_true, or_true, true_or, bx_uu, implies_true, true_implies, not_true, not_false_eq_true, false_implies, and_self, Nat.reduceLT, Int32.reduceAdd, Int32.reduceSub, Int32.reduceMul, Int32.reduceLE, Int32.reduceLT, Int32.reduceToNatClampNeg, va_rf_some, Bool.false_eq_true, k_X3_init_0 ca, k_X3_init_1 ca, k_X3_init_4 ca, k_X3_init_5 ca, k_X3_init_7 ca, k_X3_init_9 ca, k_X3_init_12 ca, k_X3_init_13 ca, k_X3_init_15 ca, k_X3_init_17 ca, k_X3_init_20 ca, k_X3_init_21 ca, k_X3_init_24 ca, k_X3_init_26 ca, k_X3_init_29 ca, k_X3_init_30 ca, k_X3_init_33 ca, k_X3_init_35 ca, k_X3_init_38 ca, a1, d2]
  try clear hF hF0 F
  intro q3 hq3
  have hq3 : va_up (va_up H1 q2 (some (.inl (ca 0, 36, .inl (fun _ => 0))))) a (some (.inr (3, [.ref q1, .int 0, .ref q2, .int 0, .null, .null]))) q3 = none := hq3
  have U2 : Bk h (va_up (va_up H1 q2 (some (.inl (ca 0, 36, .inl (fun _ => 0))))) a (some (.inr (3, [.ref q1, .int 0, .ref q2, .int 0, .null, .null])))) (Qa (Qa (fun _ => a) 1 (fun _ => q1)) 2 (fun _ => q2)) 3 := B2.up (i := 0) (by decide) (.inr (3, [.ref q1, .int 0, .ref q2, .int 0, .null, .null]))
  generalize eH2 : va_up (va_up H1 q2 (some (.inl (ca 0, 36, .inl (fun _ => 0))))) a (some (.inr (3, [.ref q1, .int 0, .ref q2, .int 0, .null, .null]))) = H2 at *
  have a2 : H2 a = some (.inr (3, [.ref q1, .int 0, .ref q2, .int 0, .null, .null])) := by rw [← eH2]; exact va_up_self _ _ _
  have b2_q1 : H2 q1 = some (.inl (ca 0, 6, .inl (fun _ => 0))) := by rw [← eH2]; exact (va_up_ne _ _ (fun z => d1 z.symm)).trans ((va_up_ne _ _ d1_2).trans b1_q1)
  have b2_q2 : H2 q2 = some (.inl (ca 0, 36, .inl (fun _ => 0))) := by rw [← eH2]; exact (va_up_ne _ _ (fun z => d2 z.symm)).trans (va_up_self _ _ _)
  clear eH2 a1 B2
  have B3 := U2.new (by decide) hq3 (.inl (ca 0, 271, .inl (fun _ => 0)))
  have d3 : ¬ a = q3 := ne_none a2 hq3
  have d1_3 : ¬ q1 = q3 := ne_none b2_q1 hq3
  have d2_3 : ¬ q2 = q3 := ne_none b2_q2 hq3
  refine goN go (stp [35]) 160 _ _ _ _ _ _ (fun F hF hF0 => ?_)
  simp only [hF, hF0, ite_not, i_push, i_iload, i_lload, i_aload, i_istore, i_astore, i_lstore, i_iinc, i_bin, i_dv, i_un, i_lbin, i_lsh, i_i2l, i_l2i, i_lcmp, i_dup, i_dup2, i_pop, i_if, i_icmp, i_goto, swG, i_sw, i_getf, i_puti, i_putz, i_putr, i_ald, i_lald, i_aald, i_ast, i_last, i_aast, i_alen, i_new, i_newi, i_newl, i_newq, i_oinit, i_ret, i_zret, i_lret, i_vret, catS, tk, rpush, isO, i_m1, i_m2, i_acopy, i_callV, i_callS, KRet, lget, lput, lputL, lcl0, isL, lv0, List.map_cons, List.map_nil, List.length_cons, List.length_nil, List.cons_append, List.nil_append, Nat.reduceAdd, Nat.reduceSub, Nat.reduceLeDiff, List.replicate_succ, List.replicate_zero, List.getElem?_cons_succ, List.getElem?_cons_zero, List.set_cons_succ, List.set_cons_zero, true_and, and_true, if_true, if_false, ↓reduceIte, Nat.le_refl, Value.category, va_up_app, eq_self, stp, Nat.reduceBEq, Bool.or_false, Bool.false_or, Bool.true_or, Bool.or_true, or_true, true_or, bx_uu, implies_true, true_implies, not_true, not_false_eq_true, false_implies, and_self, Nat.reduceLT, Int32.reduceAdd, Int32.reduceSub, Int32.reduceMul, Int32.reduceLE, Int32.reduceLT, Int32.reduceToNatClampNeg, va_rf_some, Bool.false_eq_true, k_X3_init_0 ca, k_X3_init_1 ca, k_X3_init_4 ca, k_X3_init_5 ca, k_X3_init_7 ca, k_X3_init_9 ca, k_X3_init_12 ca, k_X3_init_13 ca, k_X3_init_15 ca, k_X3_init_17 ca, k_X3_init_20 ca, k_X3_init_21 ca, k_X3_init_24 ca, k_X3_init_26 ca, k_X3_init_29 ca, k_X3_init_30 ca, k_X3_init_33 ca, k_X3_init_35 ca, k_X3_init_38 ca, a2, d3]
  try clear hF hF0 F
  intro q4 hq4
  have hq4 : va_up (va_up H2 q3 (some (.inl (ca 0, 271, .inl (fun _ => 0))))) a (some (.inr (3, [.ref q1, .int 0, .ref q2, .int 0, .ref q3, .null]))) q4 = none := hq4
  have U3 : Bk h (va_up (va_up H2 q3 (some (.inl (ca 0, 271, .inl (fun _ => 0))))) a (some (.inr (3, [.ref q1, .int 0, .ref q2, .int 0, .ref q3, .null])))) (Qa (Qa (Qa (fun _ => a) 1 (fun _ => q1)) 2 (fun _ => q2)) 3 (fun _ => q3)) 4 := B3.up (i := 0) (by decide) (.inr (3, [.ref q1, .int 0, .ref q2, .int 0, .ref q3, .null]))
  generalize eH3 : va_up (va_up H2 q3 (some (.inl (ca 0, 271, .inl (fun _ => 0))))) a (some (.inr (3, [.ref q1, .int 0, .ref q2, .int 0, .ref q3, .null]))) = H3 at *
  have a3 : H3 a = some (.inr (3, [.ref q1, .int 0, .ref q2, .int 0, .ref q3, .null])) := by rw [← eH3]; exact va_up_self _ _ _
  have b3_q1 : H3 q1 = some (.inl (ca 0, 6, .inl (fun _ => 0))) := by rw [← eH3]; exact (va_up_ne _ _ (fun z => d1 z.symm)).trans ((va_up_ne _ _ d1_3).trans b2_q1)
  have b3_q2 : H3 q2 = some (.inl (ca 0, 36, .inl (fun _ => 0))) := by rw [← eH3]; exact (va_up_ne _ _ (fun z => d2 z.symm)).trans ((va_up_ne _ _ d2_3).trans b2_q2)
  have b3_q3 : H3 q3 = some (.inl (ca 0, 271, .inl (fun _ => 0))) := by rw [← eH3]; exact (va_up_ne _ _ (fun z => d3 z.symm)).trans (va_up_self _ _ _)
  clear eH3 a2 B3
  have B4 := U3.new (by decide) hq4 (.inl (ca 0, 541, .inl (fun _ => 0)))
  have d4 : ¬ a = q4 := ne_none a3 hq4
  have d1_4 : ¬ q1 = q4 := ne_none b3_q1 hq4
  have d2_4 : ¬ q2 = q4 := ne_none b3_q2 hq4
  have d3_4 : ¬ q3 = q4 := ne_none b3_q3 hq4
  have B5 := B4.up (i := 0) (by decide) (.inr (3, [.ref q1, .int 0, .ref q2, .int 0, .ref q3, .ref q4]))
  have k0 := hs _ _ rfl B5 (va_up_self _ _ _) ((va_up_ne _ _ (fun z => d1 z.symm)).trans ((va_up_ne _ _ d1_4).trans b3_q1)) ((va_up_ne _ _ (fun z => d2 z.symm)).trans ((va_up_ne _ _ d2_4).trans b3_q2)) ((va_up_ne _ _ (fun z => d3 z.symm)).trans ((va_up_ne _ _ d3_4).trans b3_q3)) ((va_up_ne _ _ (fun z => d4 z.symm)).trans (va_up_self _ _ _))
  refine goN go (stp []) 160 _ _ _ _ _ _ (fun F hF hF0 => ?_)
  simp only [hF, hF0, ite_not, i_push, i_iload, i_lload, i_aload, i_istore, i_astore, i_lstore, i_iinc, i_bin, i_dv, i_un, i_lbin, i_lsh, i_i2l, i_l2i, i_lcmp, i_dup, i_dup2, i_pop, i_if, i_icmp, i_goto, swG, i_sw, i_getf, i_puti, i_putz, i_putr, i_ald, i_lald, i_aald, i_ast, i_last, i_aast, i_alen, i_new, i_newi, i_newl, i_newq, i_oinit, i_ret, i_zret, i_lret, i_vret, catS, tk, rpush, isO, i_m1, i_m2, i_acopy, i_callV, i_callS, KRet, lget, lput, lputL, lcl0, isL, lv0, List.map_cons, List.map_nil, List.length_cons, List.length_nil, List.cons_append, List.nil_append, Nat.reduceAdd, Nat.reduceSub, Nat.reduceLeDiff, List.replicate_succ, List.replicate_zero, List.getElem?_cons_succ, List.getElem?_cons_zero, List.set_cons_succ, List.set_cons_zero, true_and, and_true, if_true, if_false, ↓reduceIte, Nat.le_refl, Value.category, va_up_app, eq_self, stp, Nat.reduceBEq, Bool.or_false, Bool.false_or, Bool.true_or, Bool.or_true, or_true, true_or, bx_uu, implies_true, true_implies, not_true, not_false_eq_true, false_implies, and_self, Nat.reduceLT, Int32.reduceAdd, Int32.reduceSub, Int32.reduceMul, Int32.reduceLE, Int32.reduceLT, Int32.reduceToNatClampNeg, va_rf_some, Bool.false_eq_true, k_X3_init_0 ca, k_X3_init_1 ca, k_X3_init_4 ca, k_X3_init_5 ca, k_X3_init_7 ca, k_X3_init_9 ca, k_X3_init_12 ca, k_X3_init_13 ca, k_X3_init_15 ca, k_X3_init_17 ca, k_X3_init_20 ca, k_X3_init_21 ca, k_X3_init_24 ca, k_X3_init_26 ca, k_X3_init_29 ca, k_X3_init_30 ca, k_X3_init_33 ca, k_X3_init_35 ca, k_X3_init_38 ca, a3, d4]
  try clear hF hF0 F
  exact k0

