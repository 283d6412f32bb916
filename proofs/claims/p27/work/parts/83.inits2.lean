/-! State's constructor -/
def s0 : Nat → Int32 := fun j => if j < 6 then 5 * nI j else if j = 7 then 50 else if j = 8 then 100 else if j = 11 ∨ j = 43 ∨ j = 75 then 1000 else if j = 12 ∨ j = 44 ∨ j = 76 then 3000 else if j = 106 ∨ j = 113 ∨ j = 120 then 200 else if j = 108 ∨ j = 115 ∨ j = 122 then 20 else if j = 111 ∨ j = 118 ∨ j = 125 then -500 else if j = 112 ∨ j = 119 ∨ j = 126 then 1500 else 0
def stCell (x y z : Nat) : va_E := .inr (5, [.ref x, .ref y, .ref z, .int 0, .int 1000, .int 3000, .int 0, .int 0, .int 0, .int 0, .int 0])
def rmCell : va_E := .inr (2, [.int 200, .int 0, .int 20, .int 0, .int 0, .int (-500), .int 1500])
def LSx (ca : Nat → ClassId) (h H : PH) (Q : Nat → Nat) (k : Nat) : Prop := Bk h H Q (5 + 5 * k) ∧ H (Q 0) = some (.inr (4, [.ref (Q 1), .ref (Q 2), .ref (Q 3), .ref (Q 4), .int 0, .int 0, .null, .null])) ∧ (∃ f, H (Q 1) = some (.inl (ca 0, 6, .inl f)) ∧ ∀ i, i < 6 → f i = 5 * nI i) ∧ (∃ f, H (Q 2) = some (.inl (ca 0, 2, .inl f)) ∧ f 0 = 0 ∧ f 1 = 50) ∧ (∃ f, H (Q 3) = some (.inl (ca 6, 3, .inr (.inr (.inr (.inr f))))) ∧ ∀ i, i < k → f i = some (Q (5 + 5 * i))) ∧ (∃ f, H (Q 4) = some (.inl (ca 4, 3, .inr (.inr (.inr (.inr f))))) ∧ ∀ i, i < k → f i = some (Q (9 + 5 * i))) ∧
  ∀ i, i < k → H (Q (5 + 5 * i)) = some (stCell (Q (6 + 5 * i)) (Q (7 + 5 * i)) (Q (8 + 5 * i))) ∧ H (Q (6 + 5 * i)) = some (.inl (ca 0, 8, .inl zF)) ∧ H (Q (7 + 5 * i)) = some (.inl (ca 0, 8, .inl zF)) ∧ H (Q (8 + 5 * i)) = some (.inl (ca 0, 8, .inl zF)) ∧ H (Q (9 + 5 * i)) = some rmCell
theorem Qa_lt {Q c : Nat → Nat} {n i : Nat} (h : i < n) : Qa Q n c i = Q i := by unfold Qa; rw [if_pos h]
theorem Qa_ge {Q c : Nat → Nat} {n i : Nat} (h : n ≤ i) : Qa Q n c i = c (i - n) := by unfold Qa; rw [if_neg (by omega)]
theorem LSx_step {ca : Nat → ClassId} {h H G : PH} {Q c : Nat → Nat} {k st ro : Nat} {e0 : va_E} {f3 f4 : Nat → Option Nat} (L : LSx ca h H Q k) (hst : H st = none) (C : Bk (va_up H st (some e0)) G c 4) (hc : c 0 = st) (g0 : G (c 0) = some (stCell (c 1) (c 2) (c 3))) (g1 : G (c 1) = some (.inl (ca 0, 8, .inl zF))) (g2 : G (c 2) = some (.inl (ca 0, 8, .inl zF))) (g3 : G (c 3) = some (.inl (ca 0, 8, .inl zF))) (e3 : H (Q 3) = some (.inl (ca 6, 3, .inr (.inr (.inr (.inr f3)))))) (e4 : H (Q 4) = some (.inl (ca 4, 3, .inr (.inr (.inr (.inr f4)))))) (hro : va_up G (Q 3) (some (.inl (ca 6, 3, .inr (.inr (.inr (.inr (va_up f3 k (some st)))))))) ro = none) :
    LSx ca h (va_up (va_up (va_up G (Q 3) (some (.inl (ca 6, 3, .inr (.inr (.inr (.inr (va_up f3 k (some st))))))))) ro (some rmCell)) (Q 4) (some (.inl (ca 4, 3, .inr (.inr (.inr (.inr (va_up f4 k (some ro))))))))) (Qa (Qa Q (5 + 5 * k) c) (5 + 5 * k + 4) (fun _ => ro)) (k + 1) := by
  obtain ⟨B, l0, ⟨n1, l1, m1⟩, ⟨n2, l2, m2, m2'⟩, ⟨n3, l3, m3⟩, ⟨n4, l4, m4⟩, l5⟩ := L
  rw [e3] at l3; cases l3
  rw [e4] at l4; cases l4
  have B1 : Bk h G (Qa Q (5 + 5 * k) c) (5 + 5 * k + 4) := B.app (by omega) hst C (by decide) hc
  have q3 : Qa Q (5 + 5 * k) c 3 = Q 3 := Qa_lt (by omega)
  have q4 : Qa Q (5 + 5 * k) c 4 = Q 4 := Qa_lt (by omega)
  have B2 := B1.up (i := 3) (by omega) (.inl (ca 6, 3, .inr (.inr (.inr (.inr (va_up f3 k (some st)))))))
  rw [q3] at B2
  have B3 := B2.new (by omega) hro rmCell
  have q4' : Qa (Qa Q (5 + 5 * k) c) (5 + 5 * k + 4) (fun _ => ro) 4 = Q 4 := by rw [Qa_lt (by omega), q4]
  have B4 := B3.up (i := 4) (by omega) (.inl (ca 4, 3, .inr (.inr (.inr (.inr (va_up f4 k (some ro)))))))
  rw [q4'] at B4
  have hk : ∀ x e', H x = some e' → G x = some e' := fun x e' hx => Bk.keep hst C hc hx
  generalize hF : va_up (va_up (va_up G (Q 3) (some (.inl (ca 6, 3, .inr (.inr (.inr (.inr (va_up f3 k (some st))))))))) ro (some rmCell)) (Q 4) (some (.inl (ca 4, 3, .inr (.inr (.inr (.inr (va_up f4 k (some ro)))))))) = F at *
  have ne34 : ¬ Q 3 = Q 4 := fun z => absurd (B.1 3 4 (by omega) (by omega) z) (by decide)
  have hG3 : G (Q 3) = some (.inl (ca 6, 3, .inr (.inr (.inr (.inr f3))))) := hk _ _ e3
  -- what stays: a cell of G that is neither Q 3 nor Q 4
  have keepG : ∀ x e', G x = some e' → ¬ x = Q 3 → ¬ x = Q 4 → F x = some e' := fun x e' hx h3 h4 => by
    have hne : ¬ x = ro := ne_none ((va_up_ne _ _ h3).trans hx) hro
    rw [← hF]
    exact (va_up_ne _ _ h4).trans ((va_up_ne _ _ hne).trans ((va_up_ne _ _ h3).trans hx))
  have keepH : ∀ i, i < 5 + 5 * k → ¬ i = 3 → ¬ i = 4 → ∀ e', H (Q i) = some e' → F (Q i) = some e' := fun i hi h3 h4 e' hx => keepG _ _ (hk _ _ hx) (fun z => h3 (B.1 i 3 hi (by omega) z)) (fun z => h4 (B.1 i 4 hi (by omega) z))
  have keepC : ∀ i, i < 4 → ∀ e', G (c i) = some e' → F (c i) = some e' := fun i hi e' hx => by
    have hi5 : Qa Q (5 + 5 * k) c (5 + 5 * k + i) = c i := by rw [Qa_ge (by omega), Nat.add_sub_cancel_left]
    refine keepG _ _ hx (fun z => ?_) (fun z => ?_)
    · have := B1.1 (5 + 5 * k + i) 3 (by omega) (by omega) (by rw [hi5, q3, z])
      omega
    · have := B1.1 (5 + 5 * k + i) 4 (by omega) (by omega) (by rw [hi5, q4, z])
      omega
  have ql : ∀ i, i < 5 + 5 * k → Qa (Qa Q (5 + 5 * k) c) (5 + 5 * k + 4) (fun _ => ro) i = Q i := fun i hi => by rw [Qa_lt (by omega), Qa_lt hi]
  have qc : ∀ i j, i < 4 → j = 5 + 5 * k + i → Qa (Qa Q (5 + 5 * k) c) (5 + 5 * k + 4) (fun _ => ro) j = c i := fun i j hi hj => by rw [Qa_lt (by omega), Qa_ge (by omega), hj, Nat.add_sub_cancel_left]
  have qr : ∀ j, j = 9 + 5 * k → Qa (Qa Q (5 + 5 * k) c) (5 + 5 * k + 4) (fun _ => ro) j = ro := fun j hj => Qa_ge (by omega)
  generalize Qa (Qa Q (5 + 5 * k) c) (5 + 5 * k + 4) (fun _ => ro) = P at *
  have hFr : F ro = some rmCell := by
    have hne : ¬ ro = Q 4 := fun z => ne_none ((va_up_ne _ _ (fun w => ne34 w.symm)).trans (hk _ _ e4)) hro z.symm
    rw [← hF]
    exact (va_up_ne _ _ hne).trans (va_up_self _ _ _)
  have hF3 : F (Q 3) = some (.inl (ca 6, 3, .inr (.inr (.inr (.inr (va_up f3 k (some st))))))) := by
    have hne : ¬ Q 3 = ro := ne_none (va_up_self _ _ _) hro
    rw [← hF]
    exact (va_up_ne _ _ ne34).trans ((va_up_ne _ _ hne).trans (va_up_self _ _ _))
  have hF4 : F (Q 4) = some (.inl (ca 4, 3, .inr (.inr (.inr (.inr (va_up f4 k (some ro))))))) := by rw [← hF]; exact va_up_self _ _ _
  refine ⟨by rw [show 5 + 5 * (k + 1) = 5 + 5 * k + 4 + 1 by omega]; exact B4, ?_, ⟨n1, ?_, m1⟩, ⟨n2, ?_, m2, m2'⟩, ⟨va_up f3 k (some st), ?_, fun i hi => ?_⟩, ⟨va_up f4 k (some ro), ?_, fun i hi => ?_⟩, fun i hi => ?_⟩
  · rw [ql 0 (by omega), ql 1 (by omega), ql 2 (by omega), ql 3 (by omega), ql 4 (by omega)]
    exact keepH 0 (by omega) (by omega) (by omega) _ l0
  · rw [ql 1 (by omega)]; exact keepH 1 (by omega) (by omega) (by omega) _ l1
  · rw [ql 2 (by omega)]; exact keepH 2 (by omega) (by omega) (by omega) _ l2
  · rw [ql 3 (by omega)]; exact hF3
  · by_cases z : i = k
    · rw [z, va_up_self, qc 0 (5 + 5 * k) (by decide) rfl, hc]
    · rw [va_up_ne _ _ z, ql _ (by omega)]; exact m3 i (by omega)
  · rw [ql 4 (by omega)]; exact hF4
  · by_cases z : i = k
    · rw [z, va_up_self, qr _ rfl]
    · rw [va_up_ne _ _ z, ql _ (by omega)]; exact m4 i (by omega)
  · by_cases z : i = k
    · subst z
      rw [qc 0 (5 + 5 * i) (by decide) rfl, qc 1 (6 + 5 * i) (by decide) (by omega), qc 2 (7 + 5 * i) (by decide) (by omega), qc 3 (8 + 5 * i) (by decide) (by omega), qr _ rfl]
      exact ⟨keepC 0 (by decide) _ g0, keepC 1 (by decide) _ g1, keepC 2 (by decide) _ g2, keepC 3 (by decide) _ g3, hFr⟩
    · obtain ⟨x1, x2, x3, x4, x5⟩ := l5 i (by omega)
      rw [ql _ (by omega), ql _ (by omega), ql _ (by omega), ql _ (by omega), ql _ (by omega)]
      exact ⟨keepH _ (by omega) (by omega) (by omega) _ x1, keepH _ (by omega) (by omega) (by omega) _ x2, keepH _ (by omega) (by omega) (by omega) _ x3, keepH _ (by omega) (by omega) (by omega) _ x4, keepH _ (by omega) (by omega) (by omega) _ x5⟩
def pmS (i : Nat) : Nat := if i < 5 then i else if i = 5 then 20 else if i = 6 then 21 else i - 2
theorem Bk.perm {h H : PH} {Q : Nat → Nat} (B : Bk h H Q 22) : Bk h H (fun i => Q (pmS i)) 22 := by
  have hp : ∀ i, i < 22 → pmS i < 22 := fun i hi => by unfold pmS; (repeat' split) <;> omega
  have hi : ∀ i j, i < 22 → j < 22 → pmS i = pmS j → i = j := fun i j hi hj e => by
    unfold pmS at e
    repeat' split at e
    all_goals omega
  refine ⟨fun i j h1 h2 e => hi i j h1 h2 (B.1 _ _ (hp i h1) (hp j h2) e), fun i h0 h1 => B.2.1 _ (by unfold pmS; (repeat' split) <;> omega) (hp i h1), fun i h1 => B.2.2.1 _ (hp i h1), B.2.2.2⟩
def sp_X4_init (ca : Nat → ClassId) : SPEC := fun av h post => ∃ a, av = [.ref a] ∧ h a = some (.inr (4, [.null, .null, .null, .null, .int 0, .int 0, .null, .null])) ∧ ∀ H b, b 0 = a → Bk h H b 22 → SAt ca H b s0 → post none H
def k_X4_init (ca : Nat → ClassId) : Nat → IT := fun pc => if pc < 69 then lk pc [(0, i_aload 0 1),
  (1, i_oinit 4),
  (4, i_aload 0 5),
  (5, i_push (.int 6) 7),
  (7, i_newi 21 146 (ca 0) 6 9),
  (9, i_putr 4 0 12),
  (12, i_push (.int 0) 13),
  (13, i_istore 1 14),
  (14, i_iload 1 15),
  (15, i_push (.int 6) 17),
  (17, i_icmp (fun x y => y ≤ x) 35 20),
  (20, i_aload 0 21),
  (21, i_getf 4 0 24),
  (24, i_iload 1 25),
  (25, i_push (.int 5) 26),
  (26, i_iload 1 27),
  (27, i_bin (fun x y => x * y) 28),
  (28, i_ast (fun x => x) (ca 0) 29),
  (29, i_iinc 1 1 32),
  (32, i_goto 14),
  (35, i_aload 0 36),
  (36, i_push (.int 2) 37),
  (37, i_newi 21 146 (ca 0) 2 39),
  (39, i_putr 4 1 42),
  (42, i_aload 0 43),
  (43, i_getf 4 1 46),
  (46, i_push (.int 1) 47),
  (47, i_push (.int 50) 49),
  (49, i_ast (fun x => x) (ca 0) 50),
  (50, i_aload 0 51),
  (51, i_push (.int 3) 52),
  (52, i_newq 21 146 (ca 6) 3 55),
  (55, i_putr 4 2 58),
  (58, i_aload 0 59),
  (59, i_push (.int 3) 60),
  (60, i_newq 21 146 (ca 4) 3 63),
  (63, i_putr 4 3 66),
  (66, i_push (.int 0) 67),
  (67, i_istore 1 68),
  (68, i_iload 1 69)] else
  lk pc [(69, i_push (.int 3) 70),
  (70, i_icmp (fun x y => y ≤ x) 105 73),
  (73, i_aload 0 74),
  (74, i_getf 4 2 77),
  (77, i_iload 1 78),
  (78, i_new 21 146 5 11 [.null, .null, .null, .int 0, .int 0, .int 0, .int 0, .int 0, .int 0, .int 0, .int 0] 81),
  (81, i_dup 82),
  (82, i_callV 5 0 3 24 21 146 (sp_X5_init ca) 85),
  (85, i_aast 5 (ca 6) 86),
  (86, i_aload 0 87),
  (87, i_getf 4 3 90),
  (90, i_iload 1 91),
  (91, i_new 21 146 2 7 [.int 0, .int 0, .int 0, .int 0, .int 0, .int 0, .int 0] 94),
  (94, i_dup 95),
  (95, i_callV 2 0 0 0 21 146 (sp_X2_init ca) 98),
  (98, i_aast 2 (ca 4) 99),
  (99, i_iinc 1 1 102),
  (102, i_goto 68),
  (105, i_aload 0 106),
  (106, i_push (.int 100) 108),
  (108, i_puti 4 4 111),
  (111, i_aload 0 112),
  (112, i_push (.int 3) 113),
  (113, i_newi 21 146 (ca 0) 3 115),
  (115, i_putr 4 6 118),
  (118, i_aload 0 119),
  (119, i_push (.int 3) 120),
  (120, i_newi 21 146 (ca 0) 3 122),
  (122, i_putr 4 7 125),
  (125, i_vret)]
set_option maxRecDepth 20000 in
theorem t_X4_init : Tb k_X4_init yX4_init cX4_init 2 none 2 21 146 := by
  intro l D ca A p e s m args below meth c post X
  unfold k_X4_init
  refine snd_split (69) ?_ ?_
  · refine snd_cons (snd_aload_n X dX4_init_0 rfl) ?_
    refine snd_cons (snd_oinit X w_25 w_18 w_19 (by decide) (by decide) dX4_init_1) ?_
    refine snd_cons (snd_aload_n X dX4_init_4 rfl) ?_
    refine snd_cons (snd_bipush X dX4_init_5 (by decide)) ?_
    refine snd_cons (snd_newi X 0 (atype := .int) rfl rfl rfl rfl rfl w_83 (by decide) dX4_init_7) ?_
    refine snd_cons (snd_putr X Fk4 0 (by decide) rfl rfl (fun _ => ⟨rfl, rfl⟩) w_122 dX4_init_9) ?_
    refine snd_cons (snd_iconst X dX4_init_12 (by decide)) ?_
    refine snd_cons (snd_istore_n X dX4_init_13 rfl (by decide)) ?_
    refine snd_cons (snd_iload_n X dX4_init_14 rfl) ?_
    refine snd_cons (snd_bipush X dX4_init_15 (by decide)) ?_
    refine snd_cons (snd_icmp_ge X dX4_init_17 (by decide)) ?_
    refine snd_cons (snd_aload_n X dX4_init_20 rfl) ?_
    refine snd_cons (snd_getf X Fk4 0 (by decide) w_122 dX4_init_21) ?_
    refine snd_cons (snd_iload_n X dX4_init_24 rfl) ?_
    refine snd_cons (snd_iconst X dX4_init_25 (by decide)) ?_
    refine snd_cons (snd_iload_n X dX4_init_26 rfl) ?_
    refine snd_cons (snd_imul X dX4_init_27) ?_
    refine snd_cons (snd_iastore X dX4_init_28) ?_
    refine snd_cons (snd_iinc X dX4_init_29 (by decide) (by decide)) ?_
    refine snd_cons (snd_goto X dX4_init_32 (by decide)) ?_
    refine snd_cons (snd_aload_n X dX4_init_35 rfl) ?_
    refine snd_cons (snd_iconst X dX4_init_36 (by decide)) ?_
    refine snd_cons (snd_newi X 0 (atype := .int) rfl rfl rfl rfl rfl w_83 (by decide) dX4_init_37) ?_
    refine snd_cons (snd_putr X Fk4 1 (by decide) rfl rfl (fun _ => ⟨rfl, rfl⟩) w_124 dX4_init_39) ?_
    refine snd_cons (snd_aload_n X dX4_init_42 rfl) ?_
    refine snd_cons (snd_getf X Fk4 1 (by decide) w_124 dX4_init_43) ?_
    refine snd_cons (snd_iconst X dX4_init_46 (by decide)) ?_
    refine snd_cons (snd_bipush X dX4_init_47 (by decide)) ?_
    refine snd_cons (snd_iastore X dX4_init_49) ?_
    refine snd_cons (snd_aload_n X dX4_init_50 rfl) ?_
    refine snd_cons (snd_iconst X dX4_init_51 (by decide)) ?_
    refine snd_cons (snd_newq X 6 rfl rfl rfl w_26 (fun h => h.2.2.2.1) (by decide) dX4_init_52) ?_
    refine snd_cons (snd_putr X Fk4 2 (by decide) rfl rfl (fun _ => ⟨rfl, rfl⟩) w_127 dX4_init_55) ?_
    refine snd_cons (snd_aload_n X dX4_init_58 rfl) ?_
    refine snd_cons (snd_iconst X dX4_init_59 (by decide)) ?_
    refine snd_cons (snd_newq X 4 rfl rfl rfl w_28 (fun h => h.2.2.2.2.1) (by decide) dX4_init_60) ?_
    refine snd_cons (snd_putr X Fk4 3 (by decide) rfl rfl (fun _ => ⟨rfl, rfl⟩) w_129 dX4_init_63) ?_
    refine snd_cons (snd_iconst X dX4_init_66 (by decide)) ?_
    refine snd_cons (snd_istore_n X dX4_init_67 rfl (by decide)) ?_
    refine snd_cons (snd_iload_n X dX4_init_68 rfl) ?_
    exact snd_nil
  refine snd_cons (snd_iconst X dX4_init_69 (by decide)) ?_
  refine snd_cons (snd_icmp_ge X dX4_init_70 (by decide)) ?_
  refine snd_cons (snd_aload_n X dX4_init_73 rfl) ?_
  refine snd_cons (snd_getf X Fk4 2 (by decide) w_127 dX4_init_74) ?_
  refine snd_cons (snd_iload_n X dX4_init_77 rfl) ?_
  refine snd_cons (snd_new X Fk5 rfl rfl w_26 w_30 w_3 (by decide) dX4_init_78) ?_
  refine snd_cons (snd_dup X dX4_init_81) ?_
  refine snd_cons (snd_callI X (ci := 5) (ok_X5_init l D ca) rfl rfl w_31 w_32 w_3 w_33 rfl (by decide) (by decide) dX4_init_82) ?_
  refine snd_cons (snd_aastore X 6 Fk5 rfl dX4_init_85) ?_
  refine snd_cons (snd_aload_n X dX4_init_86 rfl) ?_
  refine snd_cons (snd_getf X Fk4 3 (by decide) w_129 dX4_init_87) ?_
  refine snd_cons (snd_iload_n X dX4_init_90 rfl) ?_
  refine snd_cons (snd_new X Fk2 rfl rfl w_28 w_84 w_4 (by decide) dX4_init_91) ?_
  refine snd_cons (snd_dup X dX4_init_94) ?_
  refine snd_cons (snd_callI X (ci := 2) (ok_X2_init l D ca) rfl rfl w_85 w_86 w_4 w_87 rfl (by decide) (by decide) dX4_init_95) ?_
  refine snd_cons (snd_aastore X 4 Fk2 rfl dX4_init_98) ?_
  refine snd_cons (snd_iinc X dX4_init_99 (by decide) (by decide)) ?_
  refine snd_cons (snd_goto X dX4_init_102 (by decide)) ?_
  refine snd_cons (snd_aload_n X dX4_init_105 rfl) ?_
  refine snd_cons (snd_bipush X dX4_init_106 (by decide)) ?_
  refine snd_cons (snd_puti X Fk4 4 (by decide) rfl rfl w_131 dX4_init_108) ?_
  refine snd_cons (snd_aload_n X dX4_init_111 rfl) ?_
  refine snd_cons (snd_iconst X dX4_init_112 (by decide)) ?_
  refine snd_cons (snd_newi X 0 (atype := .int) rfl rfl rfl rfl rfl w_83 (by decide) dX4_init_113) ?_
  refine snd_cons (snd_putr X Fk4 6 (by decide) rfl rfl (fun _ => ⟨rfl, rfl⟩) w_135 dX4_init_115) ?_
  refine snd_cons (snd_aload_n X dX4_init_118 rfl) ?_
  refine snd_cons (snd_iconst X dX4_init_119 (by decide)) ?_
  refine snd_cons (snd_newi X 0 (atype := .int) rfl rfl rfl rfl rfl w_83 (by decide) dX4_init_120) ?_
  refine snd_cons (snd_putr X Fk4 7 (by decide) rfl rfl (fun _ => ⟨rfl, rfl⟩) w_136 dX4_init_122) ?_
  refine snd_cons (snd_vret X dX4_init_125) ?_
  exact snd_nil
theorem k_X4_init_0 (ca : Nat → ClassId) : k_X4_init ca 0 = i_aload 0 1 := rfl
theorem k_X4_init_1 (ca : Nat → ClassId) : k_X4_init ca 1 = i_oinit 4 := rfl
theorem k_X4_init_4 (ca : Nat → ClassId) : k_X4_init ca 4 = i_aload 0 5 := rfl
theorem k_X4_init_5 (ca : Nat → ClassId) : k_X4_init ca 5 = i_push (.int 6) 7 := rfl
theorem k_X4_init_7 (ca : Nat → ClassId) : k_X4_init ca 7 = i_newi 21 146 (ca 0) 6 9 := rfl
theorem k_X4_init_9 (ca : Nat → ClassId) : k_X4_init ca 9 = i_putr 4 0 12 := rfl
theorem k_X4_init_12 (ca : Nat → ClassId) : k_X4_init ca 12 = i_push (.int 0) 13 := rfl
theorem k_X4_init_13 (ca : Nat → ClassId) : k_X4_init ca 13 = i_istore 1 14 := rfl
theorem k_X4_init_14 (ca : Nat → ClassId) : k_X4_init ca 14 = i_iload 1 15 := rfl
theorem k_X4_init_15 (ca : Nat → ClassId) : k_X4_init ca 15 = i_push (.int 6) 17 := rfl
theorem k_X4_init_17 (ca : Nat → ClassId) : k_X4_init ca 17 = i_icmp (fun x y => y ≤ x) 35 20 := rfl
theorem k_X4_init_20 (ca : Nat → ClassId) : k_X4_init ca 20 = i_aload 0 21 := rfl
theorem k_X4_init_21 (ca : Nat → ClassId) : k_X4_init ca 21 = i_getf 4 0 24 := rfl
theorem k_X4_init_24 (ca : Nat → ClassId) : k_X4_init ca 24 = i_iload 1 25 := rfl
theorem k_X4_init_25 (ca : Nat → ClassId) : k_X4_init ca 25 = i_push (.int 5) 26 := rfl
theorem k_X4_init_26 (ca : Nat → ClassId) : k_X4_init ca 26 = i_iload 1 27 := rfl
theorem k_X4_init_27 (ca : Nat → ClassId) : k_X4_init ca 27 = i_bin (fun x y => x * y) 28 := rfl
theorem k_X4_init_28 (ca : Nat → ClassId) : k_X4_init ca 28 = i_ast (fun x => x) (ca 0) 29 := rfl
theorem k_X4_init_29 (ca : Nat → ClassId) : k_X4_init ca 29 = i_iinc 1 1 32 := rfl
theorem k_X4_init_32 (ca : Nat → ClassId) : k_X4_init ca 32 = i_goto 14 := rfl
theorem k_X4_init_35 (ca : Nat → ClassId) : k_X4_init ca 35 = i_aload 0 36 := rfl
theorem k_X4_init_36 (ca : Nat → ClassId) : k_X4_init ca 36 = i_push (.int 2) 37 := rfl
theorem k_X4_init_37 (ca : Nat → ClassId) : k_X4_init ca 37 = i_newi 21 146 (ca 0) 2 39 := rfl
theorem k_X4_init_39 (ca : Nat → ClassId) : k_X4_init ca 39 = i_putr 4 1 42 := rfl
theorem k_X4_init_42 (ca : Nat → ClassId) : k_X4_init ca 42 = i_aload 0 43 := rfl
theorem k_X4_init_43 (ca : Nat → ClassId) : k_X4_init ca 43 = i_getf 4 1 46 := rfl
theorem k_X4_init_46 (ca : Nat → ClassId) : k_X4_init ca 46 = i_push (.int 1) 47 := rfl
theorem k_X4_init_47 (ca : Nat → ClassId) : k_X4_init ca 47 = i_push (.int 50) 49 := rfl
theorem k_X4_init_49 (ca : Nat → ClassId) : k_X4_init ca 49 = i_ast (fun x => x) (ca 0) 50 := rfl
theorem k_X4_init_50 (ca : Nat → ClassId) : k_X4_init ca 50 = i_aload 0 51 := rfl
theorem k_X4_init_51 (ca : Nat → ClassId) : k_X4_init ca 51 = i_push (.int 3) 52 := rfl
theorem k_X4_init_52 (ca : Nat → ClassId) : k_X4_init ca 52 = i_newq 21 146 (ca 6) 3 55 := rfl
theorem k_X4_init_55 (ca : Nat → ClassId) : k_X4_init ca 55 = i_putr 4 2 58 := rfl
theorem k_X4_init_58 (ca : Nat → ClassId) : k_X4_init ca 58 = i_aload 0 59 := rfl
theorem k_X4_init_59 (ca : Nat → ClassId) : k_X4_init ca 59 = i_push (.int 3) 60 := rfl
theorem k_X4_init_60 (ca : Nat → ClassId) : k_X4_init ca 60 = i_newq 21 146 (ca 4) 3 63 := rfl
theorem k_X4_init_63 (ca : Nat → ClassId) : k_X4_init ca 63 = i_putr 4 3 66 := rfl
theorem k_X4_init_66 (ca : Nat → ClassId) : k_X4_init ca 66 = i_push (.int 0) 67 := rfl
theorem k_X4_init_67 (ca : Nat → ClassId) : k_X4_init ca 67 = i_istore 1 68 := rfl
theorem k_X4_init_68 (ca : Nat → ClassId) : k_X4_init ca 68 = i_iload 1 69 := rfl
theorem k_X4_init_69 (ca : Nat → ClassId) : k_X4_init ca 69 = i_push (.int 3) 70 := rfl
theorem k_X4_init_70 (ca : Nat → ClassId) : k_X4_init ca 70 = i_icmp (fun x y => y ≤ x) 105 73 := rfl
theorem k_X4_init_73 (ca : Nat → ClassId) : k_X4_init ca 73 = i_aload 0 74 := rfl
theorem k_X4_init_74 (ca : Nat → ClassId) : k_X4_init ca 74 = i_getf 4 2 77 := rfl
theorem k_X4_init_77 (ca : Nat → ClassId) : k_X4_init ca 77 = i_iload 1 78 := rfl
theorem k_X4_init_78 (ca : Nat → ClassId) : k_X4_init ca 78 = i_new 21 146 5 11 [.null, .null, .null, .int 0, .int 0, .int 0, .int 0, .int 0, .int 0, .int 0, .int 0] 81 := rfl
theorem k_X4_init_81 (ca : Nat → ClassId) : k_X4_init ca 81 = i_dup 82 := rfl
theorem k_X4_init_82 (ca : Nat → ClassId) : k_X4_init ca 82 = i_callV 5 0 3 24 21 146 (sp_X5_init ca) 85 := rfl
theorem k_X4_init_85 (ca : Nat → ClassId) : k_X4_init ca 85 = i_aast 5 (ca 6) 86 := rfl
theorem k_X4_init_86 (ca : Nat → ClassId) : k_X4_init ca 86 = i_aload 0 87 := rfl
theorem k_X4_init_87 (ca : Nat → ClassId) : k_X4_init ca 87 = i_getf 4 3 90 := rfl
theorem k_X4_init_90 (ca : Nat → ClassId) : k_X4_init ca 90 = i_iload 1 91 := rfl
theorem k_X4_init_91 (ca : Nat → ClassId) : k_X4_init ca 91 = i_new 21 146 2 7 [.int 0, .int 0, .int 0, .int 0, .int 0, .int 0, .int 0] 94 := rfl
theorem k_X4_init_94 (ca : Nat → ClassId) : k_X4_init ca 94 = i_dup 95 := rfl
theorem k_X4_init_95 (ca : Nat → ClassId) : k_X4_init ca 95 = i_callV 2 0 0 0 21 146 (sp_X2_init ca) 98 := rfl
theorem k_X4_init_98 (ca : Nat → ClassId) : k_X4_init ca 98 = i_aast 2 (ca 4) 99 := rfl
theorem k_X4_init_99 (ca : Nat → ClassId) : k_X4_init ca 99 = i_iinc 1 1 102 := rfl
theorem k_X4_init_102 (ca : Nat → ClassId) : k_X4_init ca 102 = i_goto 68 := rfl
theorem k_X4_init_105 (ca : Nat → ClassId) : k_X4_init ca 105 = i_aload 0 106 := rfl
theorem k_X4_init_106 (ca : Nat → ClassId) : k_X4_init ca 106 = i_push (.int 100) 108 := rfl
theorem k_X4_init_108 (ca : Nat → ClassId) : k_X4_init ca 108 = i_puti 4 4 111 := rfl
theorem k_X4_init_111 (ca : Nat → ClassId) : k_X4_init ca 111 = i_aload 0 112 := rfl
theorem k_X4_init_112 (ca : Nat → ClassId) : k_X4_init ca 112 = i_push (.int 3) 113 := rfl
theorem k_X4_init_113 (ca : Nat → ClassId) : k_X4_init ca 113 = i_newi 21 146 (ca 0) 3 115 := rfl
theorem k_X4_init_115 (ca : Nat → ClassId) : k_X4_init ca 115 = i_putr 4 6 118 := rfl
theorem k_X4_init_118 (ca : Nat → ClassId) : k_X4_init ca 118 = i_aload 0 119 := rfl
theorem k_X4_init_119 (ca : Nat → ClassId) : k_X4_init ca 119 = i_push (.int 3) 120 := rfl
theorem k_X4_init_120 (ca : Nat → ClassId) : k_X4_init ca 120 = i_newi 21 146 (ca 0) 3 122 := rfl
theorem k_X4_init_122 (ca : Nat → ClassId) : k_X4_init ca 122 = i_putr 4 7 125 := rfl
theorem k_X4_init_125 (ca : Nat → ClassId) : k_X4_init ca 125 = i_vret := rfl
set_option maxHeartbeats 4000000 in
set_option maxRecDepth 20000 in
theorem ok_X4_init (l : Launch) (D : va_G) (ca : Nat → ClassId) : OkAll l D ca yX4_init cX4_init 2 none 2 21 146 (sp_X4_init ca) := by
  intro av h post hs
  obtain ⟨a, rfl, ha, hs⟩ := hs
  refine okM_of t_X4_init (by decide +kernel) (c1_ref c1_nil) (Nat.le_of_ble_eq_true rfl) ?_
  intro K go
  refine goN go (stp [9]) 160 _ _ _ _ _ _ (fun F hF hF0 => ?_)
  simp only [hF, hF0, ite_not, i_push, i_iload, i_lload, i_aload, i_istore, i_astore, i_lstore, i_iinc, i_bin, i_dv, i_un, i_lbin, i_lsh, i_i2l, i_l2i, i_lcmp, i_dup, i_dup2, i_pop, i_if, i_icmp, i_goto, swG, i_sw, i_getf, i_puti, i_putz, i_putr, i_ald, i_lald, i_aald, i_ast, i_last, i_aast, i_alen, i_new, i_newi, i_newl, i_newq, i_oinit, i_ret, i_zret, i_lret, i_vret, catS, tk, rpush, isO, i_m1, i_m2, i_acopy, i_callV, i_callS, KRet, lget, lput, lputL, lcl0, isL, lv0, List.map_cons, List.map_nil, List.length_cons, List.length_nil, List.cons_append, List.nil_append, Nat.reduceAdd, Nat.reduceSub, Nat.reduceLeDiff, List.replicate_succ, List.replicate_zero, List.getElem?_cons_succ, List.getElem?_cons_zero, List.set_cons_succ, List.set_cons_zero, true_and, and_true, if_true, if_false, ↓reduceIte, Nat.le_refl, Value.category, va_up_app, eq_self, stp, Nat.reduceBEq, Bool.or_false, Bool.false_or, Bool.true_or, Bool.or_true, or_true, true_or, bx_uu, implies_true, true_implies, not_true, not_false_eq_true, false_implies, and_self, Nat.reduceLT, Int32.reduceAdd, Int32.reduceSub, Int32.reduceMul, Int32.reduceLE, Int32.reduceLT, Int32.reduceToNatClampNeg, va_rf_some, Bool.false_eq_true, k_X4_init_0 ca, k_X4_init_1 ca, k_X4_init_4 ca, k_X4_init_5 ca, k_X4_init_7 ca, k_X4_init_9 ca, k_X4_init_12 ca, k_X4_init_13 ca, k_X4_init_14 ca, k_X4_init_15 ca, k_X4_init_17 ca, k_X4_init_20 ca, k_X4_init_21 ca, k_X4_init_24 ca, k_X4_init_25 ca, k_X4_init_26 ca, k_X4_init_27 ca, k_X4_init_28 ca, k_X4_init_29 ca, k_X4_init_32 ca, k_X4_init_35 ca, k_X4_init_36 ca, k_X4_init_37 ca, k_X4_init_39 ca, k_X4_init_42 ca, k_X4_init_43 ca, k_X4_init_46 ca, k_X4_init_47 ca, k_X4_init_49 ca, k_X4_init_50 ca, k_X4_init_51 ca, k_X4_init_52 ca, k_X4_init_55 ca, k_X4_init_58 ca, k_X4_init_59 ca, k_X4_init_60 ca, k_X4_init_63 ca, k_X4_init_66 ca, k_X4_init_67 ca, k_X4_init_68 ca, k_X4_init_69 ca, k_X4_init_70 ca, k_X4_init_73 ca, k_X4_init_74 ca, k_X4_init_77 ca, k_X4_init_78 ca, k_X4_init_81 ca, k_X4_init_82 ca, k_X4_init_85 ca, k_X4_init_86 ca, k_X4_init_87 ca, k_X4_init_90 ca, k_X4_init_91 ca, k_X4_init_94 ca, k_X4_init_95 ca, k_X4_init_98 ca, k_X4_init_99 ca, k_X4_init_102 ca, k_X4_init_105 ca, k_X4_init_106 ca, k_X4_init_108 ca, k_X4_init_111 ca, k_X4_init_112 ca, k_X4_init_113 ca, k_X4_init_115 ca, k_X4_init_118 ca, k_X4_init_119 ca, k_X4_init_120 ca, k_X4_init_122 ca, k_X4_init_125 ca, ha]
  try clear hF hF0 F
  intro q1 hq1
  have B1 := (Bk.one ha).new (by decide) hq1 (.inl (ca 0, 6, .inl (fun _ => 0)))
  have d1 : ¬ a = q1 := ne_none ha hq1
  have d1' : ¬ q1 = a := fun z => d1 z.symm
  have B1u : Bk h (va_up (va_up h q1 (some (.inl (ca 0, 6, .inl (fun _ => 0))))) a (some (.inr (4, [.ref q1, .null, .null, .null, .int 0, .int 0, .null, .null])))) (Qa (fun _ => a) 1 (fun _ => q1)) 2 := B1.up (i := 0) (by decide) _
  have last : ∀ H Q, Q 0 = a → LSx ca h H Q 3 → K 19 140 68 [some (.ref a), some (.int 3)] [] H := by
    intro H Q hQ0 ⟨B, l0, ⟨f1, l1, m1⟩, ⟨f2, l2, m2, m2'⟩, ⟨f3, l3, m3⟩, ⟨f4, l4, m4⟩, l5⟩
    rw [hQ0] at l0
    refine goN go (stp [115]) 160 _ _ _ _ _ _ (fun F hF hF0 => ?_)
    simp only [hF, hF0, ite_not, i_push, i_iload, i_lload, i_aload, i_istore, i_astore, i_lstore, i_iinc, i_bin, i_dv, i_un, i_lbin, i_lsh, i_i2l, i_l2i, i_lcmp, i_dup, i_dup2, i_pop, i_if, i_icmp, i_goto, swG, i_sw, i_getf, i_puti, i_putz, i_putr, i_ald, i_lald, i_aald, i_ast, i_last, i_aast, i_alen, i_new, i_newi, i_newl, i_newq, i_oinit, i_ret, i_zret, i_lret, i_vret, catS, tk, rpush, isO, i_m1, i_m2, i_acopy, i_callV, i_callS, KRet, lget, lput, lputL, lcl0, isL, lv0, List.map_cons, List.map_nil, List.length_cons, List.length_nil, List.cons_append, List.nil_append, Nat.reduceAdd, Nat.reduceSub, Nat.reduceLeDiff, List.replicate_succ, List.replicate_zero, List.getElem?_cons_succ, List.getElem?_cons_zero, List.set_cons_succ, List.set_cons_zero, true_and, and_true, if_true, if_false, ↓reduceIte, Nat.le_refl, Value.category, va_up_app, eq_self, stp, Nat.reduceBEq, Bool.or_false, Bool.false_or, Bool.true_or, Bool.or_true, or_true, true_or, bx_uu, implies_true, true_implies, not_true, not_false_eq_true, false_implies, and_self, Nat.reduceLT, Int32.reduceAdd, Int32.reduceSub, Int32.reduceMul, Int32.reduceLE, Int32.reduceLT, Int32.reduceToNatClampNeg, va_rf_some, Bool.false_eq_true, k_X4_init_0 ca, k_X4_init_1 ca, k_X4_init_4 ca, k_X4_init_5 ca, k_X4_init_7 ca, k_X4_init_9 ca, k_X4_init_12 ca, k_X4_init_13 ca, k_X4_init_14 ca, k_X4_init_15 ca, k_X4_init_17 ca, k_X4_init_20 ca, k_X4_init_21 ca, k_X4_init_24 ca, k_X4_init_25 ca, k_X4_init_26 ca, k_X4_init_27 ca, k_X4_init_28 ca, k_X4_init_29 ca, k_X4_init_32 ca, k_X4_init_35 ca, k_X4_init_36 ca, k_X4_init_37 ca, k_X4_init_39 ca, k_X4_init_42 ca, k_X4_init_43 ca, k_X4_init_46 ca, k_X4_init_47 ca, k_X4_init_49 ca, k_X4_init_50 ca, k_X4_init_51 ca, k_X4_init_52 ca, k_X4_init_55 ca, k_X4_init_58 ca, k_X4_init_59 ca, k_X4_init_60 ca, k_X4_init_63 ca, k_X4_init_66 ca, k_X4_init_67 ca, k_X4_init_68 ca, k_X4_init_69 ca, k_X4_init_70 ca, k_X4_init_73 ca, k_X4_init_74 ca, k_X4_init_77 ca, k_X4_init_78 ca, k_X4_init_81 ca, k_X4_init_82 ca, k_X4_init_85 ca, k_X4_init_86 ca, k_X4_init_87 ca, k_X4_init_90 ca, k_X4_init_91 ca, k_X4_init_94 ca, k_X4_init_95 ca, k_X4_init_98 ca, k_X4_init_99 ca, k_X4_init_102 ca, k_X4_init_105 ca, k_X4_init_106 ca, k_X4_init_108 ca, k_X4_init_111 ca, k_X4_init_112 ca, k_X4_init_113 ca, k_X4_init_115 ca, k_X4_init_118 ca, k_X4_init_119 ca, k_X4_init_120 ca, k_X4_init_122 ca, k_X4_init_125 ca, l0]
    try clear hF hF0 F
    intro q5 hq5
    have hq5 : va_up H a (some (.inr (4, [.ref (Q 1), .ref (Q 2), .ref (Q 3), .ref (Q 4), .int 100, .int 0, .null, .null]))) q5 = none := hq5
    have U1 : Bk h (va_up H a (some (.inr (4, [.ref (Q 1), .ref (Q 2), .ref (Q 3), .ref (Q 4), .int 100, .int 0, .null, .null])))) Q 20 := by
      have := B.up (i := 0) (by decide) (.inr (4, [.ref (Q 1), .ref (Q 2), .ref (Q 3), .ref (Q 4), .int 100, .int 0, .null, .null]))
      rw [hQ0] at this
      exact this
    have U2 := U1.new (by decide) hq5 (.inl (ca 0, 3, .inl (fun _ => 0)))
    have d5 : ¬ a = q5 := ne_none (va_up_self _ _ _) hq5
    have d5' : ¬ q5 = a := fun z => d5 z.symm
    refine goN go (stp [122]) 160 _ _ _ _ _ _ (fun F hF hF0 => ?_)
    simp only [hF, hF0, ite_not, i_push, i_iload, i_lload, i_aload, i_istore, i_astore, i_lstore, i_iinc, i_bin, i_dv, i_un, i_lbin, i_lsh, i_i2l, i_l2i, i_lcmp, i_dup, i_dup2, i_pop, i_if, i_icmp, i_goto, swG, i_sw, i_getf, i_puti, i_putz, i_putr, i_ald, i_lald, i_aald, i_ast, i_last, i_aast, i_alen, i_new, i_newi, i_newl, i_newq, i_oinit, i_ret, i_zret, i_lret, i_vret, catS, tk, rpush, isO, i_m1, i_m2, i_acopy, i_callV, i_callS, KRet, lget, lput, lputL, lcl0, isL, lv0, List.map_cons, List.map_nil, List.length_cons, List.length_nil, List.cons_append, List.nil_append, Nat.reduceAdd, Nat.reduceSub, Nat.reduceLeDiff, List.replicate_succ, List.replicate_zero, List.getElem?_cons_succ, List.getElem?_cons_zero, List.set_cons_succ, List.set_cons_zero, true_and, and_true, if_true, if_false, ↓reduceIte, Nat.le_refl, Value.category, va_up_app, eq_self, stp, Nat.reduceBEq, Bool.or_false, Bool.false_or, Bool.true_or, Bool.or_true, or_true, true_or, bx_uu, implies_true, true_implies, not_true, not_false_eq_true, false_implies, and_self, Nat.reduceLT, Int32.reduceAdd, Int32.reduceSub, Int32.reduceMul, Int32.reduceLE, Int32.reduceLT, Int32.reduceToNatClampNeg, va_rf_some, Bool.false_eq_true, k_X4_init_0 ca, k_X4_init_1 ca, k_X4_init_4 ca, k_X4_init_5 ca, k_X4_init_7 ca, k_X4_init_9 ca, k_X4_init_12 ca, k_X4_init_13 ca, k_X4_init_14 ca, k_X4_init_15 ca, k_X4_init_17 ca, k_X4_init_20 ca, k_X4_init_21 ca, k_X4_init_24 ca, k_X4_init_25 ca, k_X4_init_26 ca, k_X4_init_27 ca, k_X4_init_28 ca, k_X4_init_29 ca, k_X4_init_32 ca, k_X4_init_35 ca, k_X4_init_36 ca, k_X4_init_37 ca, k_X4_init_39 ca, k_X4_init_42 ca, k_X4_init_43 ca, k_X4_init_46 ca, k_X4_init_47 ca, k_X4_init_49 ca, k_X4_init_50 ca, k_X4_init_51 ca, k_X4_init_52 ca, k_X4_init_55 ca, k_X4_init_58 ca, k_X4_init_59 ca, k_X4_init_60 ca, k_X4_init_63 ca, k_X4_init_66 ca, k_X4_init_67 ca, k_X4_init_68 ca, k_X4_init_69 ca, k_X4_init_70 ca, k_X4_init_73 ca, k_X4_init_74 ca, k_X4_init_77 ca, k_X4_init_78 ca, k_X4_init_81 ca, k_X4_init_82 ca, k_X4_init_85 ca, k_X4_init_86 ca, k_X4_init_87 ca, k_X4_init_90 ca, k_X4_init_91 ca, k_X4_init_94 ca, k_X4_init_95 ca, k_X4_init_98 ca, k_X4_init_99 ca, k_X4_init_102 ca, k_X4_init_105 ca, k_X4_init_106 ca, k_X4_init_108 ca, k_X4_init_111 ca, k_X4_init_112 ca, k_X4_init_113 ca, k_X4_init_115 ca, k_X4_init_118 ca, k_X4_init_119 ca, k_X4_init_120 ca, k_X4_init_122 ca, k_X4_init_125 ca, l0, d5]
    try clear hF hF0 F
    intro q6 hq6
    have hq6 : va_up (va_up (va_up H a (some (.inr (4, [.ref (Q 1), .ref (Q 2), .ref (Q 3), .ref (Q 4), .int 100, .int 0, .null, .null])))) q5 (some (.inl (ca 0, 3, .inl (fun _ => 0))))) a (some (.inr (4, [.ref (Q 1), .ref (Q 2), .ref (Q 3), .ref (Q 4), .int 100, .int 0, .ref q5, .null]))) q6 = none := hq6
    have U3 : Bk h (va_up (va_up (va_up H a (some (.inr (4, [.ref (Q 1), .ref (Q 2), .ref (Q 3), .ref (Q 4), .int 100, .int 0, .null, .null])))) q5 (some (.inl (ca 0, 3, .inl (fun _ => 0))))) a (some (.inr (4, [.ref (Q 1), .ref (Q 2), .ref (Q 3), .ref (Q 4), .int 100, .int 0, .ref q5, .null])))) (Qa Q 20 (fun _ => q5)) 21 := by
      have := U2.up (i := 0) (by decide) (.inr (4, [.ref (Q 1), .ref (Q 2), .ref (Q 3), .ref (Q 4), .int 100, .int 0, .ref q5, .null]))
      rw [show Qa Q 20 (fun _ => q5) 0 = a from hQ0] at this
      exact this
    have U4 := U3.new (by decide) hq6 (.inl (ca 0, 3, .inl (fun _ => 0)))
    have d6 : ¬ a = q6 := ne_none (va_up_self _ _ _) hq6
    have d56 : ¬ q5 = q6 := ne_none ((va_up_ne _ _ d5').trans (va_up_self _ _ _)) hq6
    have d6' : ¬ q6 = a := fun z => d6 z.symm
    have U5 := U4.up (i := 0) (by decide) (.inr (4, [.ref (Q 1), .ref (Q 2), .ref (Q 3), .ref (Q 4), .int 100, .int 0, .ref q5, .ref q6]))
    rw [show Qa (Qa Q 20 (fun _ => q5)) 21 (fun _ => q6) 0 = a from hQ0] at U5
    have keep : ∀ i, 0 < i → i < 20 → ∀ e', H (Q i) = some e' → va_up (va_up (va_up (va_up (va_up H a (some (.inr (4, [.ref (Q 1), .ref (Q 2), .ref (Q 3), .ref (Q 4), .int 100, .int 0, .null, .null])))) q5 (some (.inl (ca 0, 3, .inl (fun _ => 0))))) a (some (.inr (4, [.ref (Q 1), .ref (Q 2), .ref (Q 3), .ref (Q 4), .int 100, .int 0, .ref q5, .null])))) q6 (some (.inl (ca 0, 3, .inl (fun _ => 0))))) a (some (.inr (4, [.ref (Q 1), .ref (Q 2), .ref (Q 3), .ref (Q 4), .int 100, .int 0, .ref q5, .ref q6]))) (Q i) = some e' := fun i h0 hi e' hx => by
      have na : ¬ Q i = a := fun z => by rw [← hQ0] at z; have := B.1 i 0 hi (by decide) z; omega
      have n5 : ¬ Q i = q5 := ne_none ((va_up_ne _ _ na).trans hx) hq5
      have n6 : ¬ Q i = q6 := ne_none ((va_up_ne _ _ na).trans ((va_up_ne _ _ n5).trans ((va_up_ne _ _ na).trans hx))) hq6
      exact (va_up_ne _ _ na).trans ((va_up_ne _ _ n6).trans ((va_up_ne _ _ na).trans ((va_up_ne _ _ n5).trans ((va_up_ne _ _ na).trans hx))))
    have w5 : va_up (va_up (va_up (va_up (va_up H a (some (.inr (4, [.ref (Q 1), .ref (Q 2), .ref (Q 3), .ref (Q 4), .int 100, .int 0, .null, .null])))) q5 (some (.inl (ca 0, 3, .inl (fun _ => 0))))) a (some (.inr (4, [.ref (Q 1), .ref (Q 2), .ref (Q 3), .ref (Q 4), .int 100, .int 0, .ref q5, .null])))) q6 (some (.inl (ca 0, 3, .inl (fun _ => 0))))) a (some (.inr (4, [.ref (Q 1), .ref (Q 2), .ref (Q 3), .ref (Q 4), .int 100, .int 0, .ref q5, .ref q6]))) q5 = some (.inl (ca 0, 3, .inl (fun _ => 0))) := (va_up_ne _ _ d5').trans ((va_up_ne _ _ d56).trans ((va_up_ne _ _ d5').trans (va_up_self _ _ _)))
    have w6 : va_up (va_up (va_up (va_up (va_up H a (some (.inr (4, [.ref (Q 1), .ref (Q 2), .ref (Q 3), .ref (Q 4), .int 100, .int 0, .null, .null])))) q5 (some (.inl (ca 0, 3, .inl (fun _ => 0))))) a (some (.inr (4, [.ref (Q 1), .ref (Q 2), .ref (Q 3), .ref (Q 4), .int 100, .int 0, .ref q5, .null])))) q6 (some (.inl (ca 0, 3, .inl (fun _ => 0))))) a (some (.inr (4, [.ref (Q 1), .ref (Q 2), .ref (Q 3), .ref (Q 4), .int 100, .int 0, .ref q5, .ref q6]))) q6 = some (.inl (ca 0, 3, .inl (fun _ => 0))) := (va_up_ne _ _ d6').trans (va_up_self _ _ _)
    have w0 : va_up (va_up (va_up (va_up (va_up H a (some (.inr (4, [.ref (Q 1), .ref (Q 2), .ref (Q 3), .ref (Q 4), .int 100, .int 0, .null, .null])))) q5 (some (.inl (ca 0, 3, .inl (fun _ => 0))))) a (some (.inr (4, [.ref (Q 1), .ref (Q 2), .ref (Q 3), .ref (Q 4), .int 100, .int 0, .ref q5, .null])))) q6 (some (.inl (ca 0, 3, .inl (fun _ => 0))))) a (some (.inr (4, [.ref (Q 1), .ref (Q 2), .ref (Q 3), .ref (Q 4), .int 100, .int 0, .ref q5, .ref q6]))) a = some (.inr (4, [.ref (Q 1), .ref (Q 2), .ref (Q 3), .ref (Q 4), .int 100, .int 0, .ref q5, .ref q6])) := va_up_self _ _ _
    have k0 := hs _ (fun i => Qa (Qa Q 20 (fun _ => q5)) 21 (fun _ => q6) (pmS i)) hQ0 U5.perm
    refine goN go (stp []) 160 _ _ _ _ _ _ (fun F hF hF0 => ?_)
    simp only [hF, hF0, ite_not, i_push, i_iload, i_lload, i_aload, i_istore, i_astore, i_lstore, i_iinc, i_bin, i_dv, i_un, i_lbin, i_lsh, i_i2l, i_l2i, i_lcmp, i_dup, i_dup2, i_pop, i_if, i_icmp, i_goto, swG, i_sw, i_getf, i_puti, i_putz, i_putr, i_ald, i_lald, i_aald, i_ast, i_last, i_aast, i_alen, i_new, i_newi, i_newl, i_newq, i_oinit, i_ret, i_zret, i_lret, i_vret, catS, tk, rpush, isO, i_m1, i_m2, i_acopy, i_callV, i_callS, KRet, lget, lput, lputL, lcl0, isL, lv0, List.map_cons, List.map_nil, List.length_cons, List.length_nil, List.cons_append, List.nil_append, Nat.reduceAdd, Nat.reduceSub, Nat.reduceLeDiff, List.replicate_succ, List.replicate_zero, List.getElem?_cons_succ, List.getElem?_cons_zero, List.set_cons_succ, List.set_cons_zero, true_and, and_true, if_true, if_false, ↓reduceIte, Nat.le_refl, Value.category, va_up_app, eq_self, stp, Nat.reduceBEq, Bool.or_false, Bool.false_or, Bool.true_or, Bool.or_true, or_true, true_or, bx_uu, implies_true, true_implies, not_true, not_false_eq_true, false_implies, and_self, Nat.reduceLT, Int32.reduceAdd, Int32.reduceSub, Int32.reduceMul, Int32.reduceLE, Int32.reduceLT, Int32.reduceToNatClampNeg, va_rf_some, Bool.false_eq_true, k_X4_init_0 ca, k_X4_init_1 ca, k_X4_init_4 ca, k_X4_init_5 ca, k_X4_init_7 ca, k_X4_init_9 ca, k_X4_init_12 ca, k_X4_init_13 ca, k_X4_init_14 ca, k_X4_init_15 ca, k_X4_init_17 ca, k_X4_init_20 ca, k_X4_init_21 ca, k_X4_init_24 ca, k_X4_init_25 ca, k_X4_init_26 ca, k_X4_init_27 ca, k_X4_init_28 ca, k_X4_init_29 ca, k_X4_init_32 ca, k_X4_init_35 ca, k_X4_init_36 ca, k_X4_init_37 ca, k_X4_init_39 ca, k_X4_init_42 ca, k_X4_init_43 ca, k_X4_init_46 ca, k_X4_init_47 ca, k_X4_init_49 ca, k_X4_init_50 ca, k_X4_init_51 ca, k_X4_init_52 ca, k_X4_init_55 ca, k_X4_init_58 ca, k_X4_init_59 ca, k_X4_init_60 ca, k_X4_init_63 ca, k_X4_init_66 ca, k_X4_init_67 ca, k_X4_init_68 ca, k_X4_init_69 ca, k_X4_init_70 ca, k_X4_init_73 ca, k_X4_init_74 ca, k_X4_init_77 ca, k_X4_init_78 ca, k_X4_init_81 ca, k_X4_init_82 ca, k_X4_init_85 ca, k_X4_init_86 ca, k_X4_init_87 ca, k_X4_init_90 ca, k_X4_init_91 ca, k_X4_init_94 ca, k_X4_init_95 ca, k_X4_init_98 ca, k_X4_init_99 ca, k_X4_init_102 ca, k_X4_init_105 ca, k_X4_init_106 ca, k_X4_init_108 ca, k_X4_init_111 ca, k_X4_init_112 ca, k_X4_init_113 ca, k_X4_init_115 ca, k_X4_init_118 ca, k_X4_init_119 ca, k_X4_init_120 ca, k_X4_init_122 ca, k_X4_init_125 ca, l0, d5, d6]
    try clear hF hF0 F
    refine k0 ?_
    clear k0
    generalize va_up (va_up (va_up (va_up (va_up H a (some (.inr (4, [.ref (Q 1), .ref (Q 2), .ref (Q 3), .ref (Q 4), .int 100, .int 0, .null, .null])))) q5 (some (.inl (ca 0, 3, .inl (fun _ => 0))))) a (some (.inr (4, [.ref (Q 1), .ref (Q 2), .ref (Q 3), .ref (Q 4), .int 100, .int 0, .ref q5, .null])))) q6 (some (.inl (ca 0, 3, .inl (fun _ => 0))))) a (some (.inr (4, [.ref (Q 1), .ref (Q 2), .ref (Q 3), .ref (Q 4), .int 100, .int 0, .ref q5, .ref q6]))) = F at *
    have z8 : ∀ o : Nat, (∀ i, i < 8 → s0 (o + i) = 0) → ∀ i, i < 8 → zF i = s0 (o + i) := fun o ho i hi => (ho i hi).symm
    have hz : ∀ k j, k < 3 → 8 ≤ j → j < 32 → s0 (10 + 32 * k + j) = 0 := fun k j hk h8 hj => by
      have hk3 : k = 0 ∨ k = 1 ∨ k = 2 := by omega
      unfold s0
      rcases hk3 with rfl | rfl | rfl <;> rw [if_neg (by omega), if_neg (by omega), if_neg (by omega), if_neg (by omega), if_neg (by omega), if_neg (by omega), if_neg (by omega), if_neg (by omega), if_neg (by omega)]
    obtain ⟨x1, x2, x3, x4, x5⟩ := l5 0 (by decide)
    obtain ⟨y1, y2, y3, y4, y5⟩ := l5 1 (by decide)
    obtain ⟨t1, t2, t3, t4, t5⟩ := l5 2 (by decide)
    refine ⟨?_, ⟨f1, keep 1 (by decide) (by decide) _ l1, fun i hi => ?_⟩, ⟨f2, keep 2 (by decide) (by decide) _ l2, fun i hi => ?_⟩, ⟨f3, keep 3 (by decide) (by decide) _ l3, fun i hi => ?_⟩, ⟨f4, keep 4 (by decide) (by decide) _ l4, fun i hi => ?_⟩, ⟨_, w5⟩, ⟨_, w6⟩, ⟨keep 5 (by decide) (by decide) _ x1, ⟨zF, keep 6 (by decide) (by decide) _ x2, fun i hi => (hz 0 (8 + 3 * i) (by decide) (by omega) (by omega)).symm⟩, ⟨zF, keep 7 (by decide) (by decide) _ x3, fun i hi => (hz 0 (9 + 3 * i) (by decide) (by omega) (by omega)).symm⟩, ⟨zF, keep 8 (by decide) (by decide) _ x4, fun i hi => (hz 0 (10 + 3 * i) (by decide) (by omega) (by omega)).symm⟩⟩, keep 9 (by decide) (by decide) _ x5, ⟨keep 10 (by decide) (by decide) _ y1, ⟨zF, keep 11 (by decide) (by decide) _ y2, fun i hi => (hz 1 (8 + 3 * i) (by decide) (by omega) (by omega)).symm⟩, ⟨zF, keep 12 (by decide) (by decide) _ y3, fun i hi => (hz 1 (9 + 3 * i) (by decide) (by omega) (by omega)).symm⟩, ⟨zF, keep 13 (by decide) (by decide) _ y4, fun i hi => (hz 1 (10 + 3 * i) (by decide) (by omega) (by omega)).symm⟩⟩, keep 14 (by decide) (by decide) _ y5, ⟨keep 15 (by decide) (by decide) _ t1, ⟨zF, keep 16 (by decide) (by decide) _ t2, fun i hi => (hz 2 (8 + 3 * i) (by decide) (by omega) (by omega)).symm⟩, ⟨zF, keep 17 (by decide) (by decide) _ t3, fun i hi => (hz 2 (9 + 3 * i) (by decide) (by omega) (by omega)).symm⟩, ⟨zF, keep 18 (by decide) (by decide) _ t4, fun i hi => (hz 2 (10 + 3 * i) (by decide) (by omega) (by omega)).symm⟩⟩, keep 19 (by decide) (by decide) _ t5⟩
    · show F (Q 0) = _
      rw [hQ0]
      exact w0
    · rw [m1 i hi]; unfold s0; rw [if_pos hi]
    · have : i = 0 ∨ i = 1 := by omega
      rcases this with rfl | rfl
      · exact m2
      · exact m2'
    · have : i = 0 ∨ i = 1 ∨ i = 2 := by omega
      rcases this with rfl | rfl | rfl
      · exact m3 0 (by decide)
      · exact m3 1 (by decide)
      · exact m3 2 (by decide)
    · have : i = 0 ∨ i = 1 ∨ i = 2 := by omega
      rcases this with rfl | rfl | rfl
      · exact m4 0 (by decide)
      · exact m4 1 (by decide)
      · exact m4 2 (by decide)
  have it : ∀ k, k < 3 → ∀ H Q, Q 0 = a → LSx ca h H Q k → (∀ H' Q', Q' 0 = a → LSx ca h H' Q' (k + 1) → K (4 + 5 * (k + 1)) (14 + 42 * (k + 1)) 68 [some (.ref a), some (.int (nI k + 1))] [] H') → K (4 + 5 * k) (14 + 42 * k) 68 [some (.ref a), some (.int (nI k))] [] H := by
    intro k hk H Q hQ0 hL hn
    obtain ⟨B, l0, -, -, ⟨f3, l3, m3⟩, ⟨f4, l4, m4⟩, -⟩ := id hL
    rw [hQ0] at l0
    have na3 : ¬ a = Q 3 := fun z => by rw [← hQ0] at z; have := B.1 0 3 (by omega) (by omega) z; omega
    have na4 : ¬ a = Q 4 := fun z => by rw [← hQ0] at z; have := B.1 0 4 (by omega) (by omega) z; omega
    have n34 : ¬ Q 4 = Q 3 := fun z => absurd (B.1 4 3 (by omega) (by omega) z) (by decide)
    have step : ∀ st e0 G c, H st = none → Bk (va_up H st (some e0)) G c 4 → c 0 = st → G (c 0) = some (stCell (c 1) (c 2) (c 3)) → G (c 1) = some (.inl (ca 0, 8, .inl zF)) → G (c 2) = some (.inl (ca 0, 8, .inl zF)) → G (c 3) = some (.inl (ca 0, 8, .inl zF)) → (G a = some (.inr (4, [.ref (Q 1), .ref (Q 2), .ref (Q 3), .ref (Q 4), .int 0, .int 0, .null, .null])) ∧ G (Q 3) = some (.inl (ca 6, 3, .inr (.inr (.inr (.inr f3))))) ∧ G (Q 4) = some (.inl (ca 4, 3, .inr (.inr (.inr (.inr f4))))) ∧ ¬ st = Q 3 ∧ ¬ st = Q 4) := fun st e0 G c hst C hc _ _ _ _ => ⟨Bk.keep hst C hc l0, Bk.keep hst C hc l3, Bk.keep hst C hc l4, fun z => ne_none l3 hst z.symm, fun z => ne_none l4 hst z.symm⟩
    have fin : ∀ st e0 G c ro, H st = none → Bk (va_up H st (some e0)) G c 4 → c 0 = st → G (c 0) = some (stCell (c 1) (c 2) (c 3)) → G (c 1) = some (.inl (ca 0, 8, .inl zF)) → G (c 2) = some (.inl (ca 0, 8, .inl zF)) → G (c 3) = some (.inl (ca 0, 8, .inl zF)) → va_up G (Q 3) (some (.inl (ca 6, 3, .inr (.inr (.inr (.inr (va_up f3 k (some st)))))))) ro = none → K (4 + 5 * (k + 1)) (14 + 42 * (k + 1)) 68 [some (.ref a), some (.int (nI k + 1))] [] (va_up (va_up (va_up G (Q 3) (some (.inl (ca 6, 3, .inr (.inr (.inr (.inr (va_up f3 k (some st))))))))) ro (some rmCell)) (Q 4) (some (.inl (ca 4, 3, .inr (.inr (.inr (.inr (va_up f4 k (some ro))))))))) := fun st e0 G c ro hst C hc g0 g1 g2 g3 hro => hn _ _ (by rw [Qa_lt (by omega), Qa_lt (by omega)]; exact hQ0) (LSx_step hL hst C hc g0 g1 g2 g3 l3 l4 hro)
    clear hn hL
    have hk3 : k = 0 ∨ k = 1 ∨ k = 2 := by omega
    rcases hk3 with rfl | rfl | rfl
    all_goals
      skip
    · show K 4 14 68 [some (.ref a), some (.int (nI 0))] [] H
      rw [nI_0] at *
      refine goN go (stp [81]) 160 _ _ _ _ _ _ (fun F hF hF0 => ?_)
      simp only [hF, hF0, ite_not, i_push, i_iload, i_lload, i_aload, i_istore, i_astore, i_lstore, i_iinc, i_bin, i_dv, i_un, i_lbin, i_lsh, i_i2l, i_l2i, i_lcmp, i_dup, i_dup2, i_pop, i_if, i_icmp, i_goto, swG, i_sw, i_getf, i_puti, i_putz, i_putr, i_ald, i_lald, i_aald, i_ast, i_last, i_aast, i_alen, i_new, i_newi, i_newl, i_newq, i_oinit, i_ret, i_zret, i_lret, i_vret, catS, tk, rpush, isO, i_m1, i_m2, i_acopy, i_callV, i_callS, KRet, lget, lput, lputL, lcl0, isL, lv0, List.map_cons, List.map_nil, List.length_cons, List.length_nil, List.cons_append, List.nil_append, Nat.reduceAdd, Nat.reduceSub, Nat.reduceLeDiff, List.replicate_succ, List.replicate_zero, List.getElem?_cons_succ, List.getElem?_cons_zero, List.set_cons_succ, List.set_cons_zero, true_and, and_true, if_true, if_false, ↓reduceIte, Nat.le_refl, Value.category, va_up_app, eq_self, stp, Nat.reduceBEq, Bool.or_false, Bool.false_or, Bool.true_or, Bool.or_true, or_true, true_or, bx_uu, implies_true, true_implies, not_true, not_false_eq_true, false_implies, and_self, Nat.reduceLT, Int32.reduceAdd, Int32.reduceSub, Int32.reduceMul, Int32.reduceLE, Int32.reduceLT, Int32.reduceToNatClampNeg, va_rf_some, Bool.false_eq_true, k_X4_init_0 ca, k_X4_init_1 ca, k_X4_init_4 ca, k_X4_init_5 ca, k_X4_init_7 ca, k_X4_init_9 ca, k_X4_init_12 ca, k_X4_init_13 ca, k_X4_init_14 ca, k_X4_init_15 ca, k_X4_init_17 ca, k_X4_init_20 ca, k_X4_init_21 ca, k_X4_init_24 ca, k_X4_init_25 ca, k_X4_init_26 ca, k_X4_init_27 ca, k_X4_init_28 ca, k_X4_init_29 ca, k_X4_init_32 ca, k_X4_init_35 ca, k_X4_init_36 ca, k_X4_init_37 ca, k_X4_init_39 ca, k_X4_init_42 ca, k_X4_init_43 ca, k_X4_init_46 ca, k_X4_init_47 ca, k_X4_init_49 ca, k_X4_init_50 ca, k_X4_init_51 ca, k_X4_init_52 ca, k_X4_init_55 ca, k_X4_init_58 ca, k_X4_init_59 ca, k_X4_init_60 ca, k_X4_init_63 ca, k_X4_init_66 ca, k_X4_init_67 ca, k_X4_init_68 ca, k_X4_init_69 ca, k_X4_init_70 ca, k_X4_init_73 ca, k_X4_init_74 ca, k_X4_init_77 ca, k_X4_init_78 ca, k_X4_init_81 ca, k_X4_init_82 ca, k_X4_init_85 ca, k_X4_init_86 ca, k_X4_init_87 ca, k_X4_init_90 ca, k_X4_init_91 ca, k_X4_init_94 ca, k_X4_init_95 ca, k_X4_init_98 ca, k_X4_init_99 ca, k_X4_init_102 ca, k_X4_init_105 ca, k_X4_init_106 ca, k_X4_init_108 ca, k_X4_init_111 ca, k_X4_init_112 ca, k_X4_init_113 ca, k_X4_init_115 ca, k_X4_init_118 ca, k_X4_init_119 ca, k_X4_init_120 ca, k_X4_init_122 ca, k_X4_init_125 ca, l0]
      try clear hF hF0 F
      intro st hst
      have ast : ¬ a = st := ne_none l0 hst
      refine goN go (stp [85]) 160 _ _ _ _ _ _ (fun F hF hF0 => ?_)
      simp only [hF, hF0, ite_not, i_push, i_iload, i_lload, i_aload, i_istore, i_astore, i_lstore, i_iinc, i_bin, i_dv, i_un, i_lbin, i_lsh, i_i2l, i_l2i, i_lcmp, i_dup, i_dup2, i_pop, i_if, i_icmp, i_goto, swG, i_sw, i_getf, i_puti, i_putz, i_putr, i_ald, i_lald, i_aald, i_ast, i_last, i_aast, i_alen, i_new, i_newi, i_newl, i_newq, i_oinit, i_ret, i_zret, i_lret, i_vret, catS, tk, rpush, isO, i_m1, i_m2, i_acopy, i_callV, i_callS, KRet, lget, lput, lputL, lcl0, isL, lv0, List.map_cons, List.map_nil, List.length_cons, List.length_nil, List.cons_append, List.nil_append, Nat.reduceAdd, Nat.reduceSub, Nat.reduceLeDiff, List.replicate_succ, List.replicate_zero, List.getElem?_cons_succ, List.getElem?_cons_zero, List.set_cons_succ, List.set_cons_zero, true_and, and_true, if_true, if_false, ↓reduceIte, Nat.le_refl, Value.category, va_up_app, eq_self, stp, Nat.reduceBEq, Bool.or_false, Bool.false_or, Bool.true_or, Bool.or_true, or_true, true_or, bx_uu, implies_true, true_implies, not_true, not_false_eq_true, false_implies, and_self, Nat.reduceLT, Int32.reduceAdd, Int32.reduceSub, Int32.reduceMul, Int32.reduceLE, Int32.reduceLT, Int32.reduceToNatClampNeg, va_rf_some, Bool.false_eq_true, k_X4_init_0 ca, k_X4_init_1 ca, k_X4_init_4 ca, k_X4_init_5 ca, k_X4_init_7 ca, k_X4_init_9 ca, k_X4_init_12 ca, k_X4_init_13 ca, k_X4_init_14 ca, k_X4_init_15 ca, k_X4_init_17 ca, k_X4_init_20 ca, k_X4_init_21 ca, k_X4_init_24 ca, k_X4_init_25 ca, k_X4_init_26 ca, k_X4_init_27 ca, k_X4_init_28 ca, k_X4_init_29 ca, k_X4_init_32 ca, k_X4_init_35 ca, k_X4_init_36 ca, k_X4_init_37 ca, k_X4_init_39 ca, k_X4_init_42 ca, k_X4_init_43 ca, k_X4_init_46 ca, k_X4_init_47 ca, k_X4_init_49 ca, k_X4_init_50 ca, k_X4_init_51 ca, k_X4_init_52 ca, k_X4_init_55 ca, k_X4_init_58 ca, k_X4_init_59 ca, k_X4_init_60 ca, k_X4_init_63 ca, k_X4_init_66 ca, k_X4_init_67 ca, k_X4_init_68 ca, k_X4_init_69 ca, k_X4_init_70 ca, k_X4_init_73 ca, k_X4_init_74 ca, k_X4_init_77 ca, k_X4_init_78 ca, k_X4_init_81 ca, k_X4_init_82 ca, k_X4_init_85 ca, k_X4_init_86 ca, k_X4_init_87 ca, k_X4_init_90 ca, k_X4_init_91 ca, k_X4_init_94 ca, k_X4_init_95 ca, k_X4_init_98 ca, k_X4_init_99 ca, k_X4_init_102 ca, k_X4_init_105 ca, k_X4_init_106 ca, k_X4_init_108 ca, k_X4_init_111 ca, k_X4_init_112 ca, k_X4_init_113 ca, k_X4_init_115 ca, k_X4_init_118 ca, k_X4_init_119 ca, k_X4_init_120 ca, k_X4_init_122 ca, k_X4_init_125 ca]
      try clear hF hF0 F
      refine ⟨st, rfl, va_up_self _ _ _, fun G c hc C g0 g1 g2 g3 => ?_⟩
      obtain ⟨u0, u3, u4, u5, u6⟩ := step st _ G c hst C hc g0 g1 g2 g3
      have hG := fun ro => fin st _ G c ro hst C hc g0 g1 g2 g3
      rw [hc] at g0
      refine goN go (stp [94]) 160 _ _ _ _ _ _ (fun F hF hF0 => ?_)
      simp only [hF, hF0, ite_not, i_push, i_iload, i_lload, i_aload, i_istore, i_astore, i_lstore, i_iinc, i_bin, i_dv, i_un, i_lbin, i_lsh, i_i2l, i_l2i, i_lcmp, i_dup, i_dup2, i_pop, i_if, i_icmp, i_goto, swG, i_sw, i_getf, i_puti, i_putz, i_putr, i_ald, i_lald, i_aald, i_ast, i_last, i_aast, i_alen, i_new, i_newi, i_newl, i_newq, i_oinit, i_ret, i_zret, i_lret, i_vret, catS, tk, rpush, isO, i_m1, i_m2, i_acopy, i_callV, i_callS, KRet, lget, lput, lputL, lcl0, isL, lv0, List.map_cons, List.map_nil, List.length_cons, List.length_nil, List.cons_append, List.nil_append, Nat.reduceAdd, Nat.reduceSub, Nat.reduceLeDiff, List.replicate_succ, List.replicate_zero, List.getElem?_cons_succ, List.getElem?_cons_zero, List.set_cons_succ, List.set_cons_zero, true_and, and_true, if_true, if_false, ↓reduceIte, Nat.le_refl, Value.category, va_up_app, eq_self, stp, Nat.reduceBEq, Bool.or_false, Bool.false_or, Bool.true_or, Bool.or_true, or_true, true_or, bx_uu, implies_true, true_implies, not_true, not_false_eq_true, false_implies, and_self, Nat.reduceLT, Int32.reduceAdd, Int32.reduceSub, Int32.reduceMul, Int32.reduceLE, Int32.reduceLT, Int32.reduceToNatClampNeg, va_rf_some, Bool.false_eq_true, k_X4_init_0 ca, k_X4_init_1 ca, k_X4_init_4 ca, k_X4_init_5 ca, k_X4_init_7 ca, k_X4_init_9 ca, k_X4_init_12 ca, k_X4_init_13 ca, k_X4_init_14 ca, k_X4_init_15 ca, k_X4_init_17 ca, k_X4_init_20 ca, k_X4_init_21 ca, k_X4_init_24 ca, k_X4_init_25 ca, k_X4_init_26 ca, k_X4_init_27 ca, k_X4_init_28 ca, k_X4_init_29 ca, k_X4_init_32 ca, k_X4_init_35 ca, k_X4_init_36 ca, k_X4_init_37 ca, k_X4_init_39 ca, k_X4_init_42 ca, k_X4_init_43 ca, k_X4_init_46 ca, k_X4_init_47 ca, k_X4_init_49 ca, k_X4_init_50 ca, k_X4_init_51 ca, k_X4_init_52 ca, k_X4_init_55 ca, k_X4_init_58 ca, k_X4_init_59 ca, k_X4_init_60 ca, k_X4_init_63 ca, k_X4_init_66 ca, k_X4_init_67 ca, k_X4_init_68 ca, k_X4_init_69 ca, k_X4_init_70 ca, k_X4_init_73 ca, k_X4_init_74 ca, k_X4_init_77 ca, k_X4_init_78 ca, k_X4_init_81 ca, k_X4_init_82 ca, k_X4_init_85 ca, k_X4_init_86 ca, k_X4_init_87 ca, k_X4_init_90 ca, k_X4_init_91 ca, k_X4_init_94 ca, k_X4_init_95 ca, k_X4_init_98 ca, k_X4_init_99 ca, k_X4_init_102 ca, k_X4_init_105 ca, k_X4_init_106 ca, k_X4_init_108 ca, k_X4_init_111 ca, k_X4_init_112 ca, k_X4_init_113 ca, k_X4_init_115 ca, k_X4_init_118 ca, k_X4_init_119 ca, k_X4_init_120 ca, k_X4_init_122 ca, k_X4_init_125 ca, g0, u0, u3, u5, na3, v03]
      try clear hF hF0 F
      intro ro hro
      have hro : va_up G (Q 3) (some (.inl (ca 6, 3, .inr (.inr (.inr (.inr (va_up f3 0 (some st)))))))) ro = none := hro
      have k0 := hG ro hro
      have nro4 : ¬ Q 4 = ro := ne_none ((va_up_ne _ _ n34).trans u4) hro
      refine goN go (stp [98]) 160 _ _ _ _ _ _ (fun F hF hF0 => ?_)
      simp only [hF, hF0, ite_not, i_push, i_iload, i_lload, i_aload, i_istore, i_astore, i_lstore, i_iinc, i_bin, i_dv, i_un, i_lbin, i_lsh, i_i2l, i_l2i, i_lcmp, i_dup, i_dup2, i_pop, i_if, i_icmp, i_goto, swG, i_sw, i_getf, i_puti, i_putz, i_putr, i_ald, i_lald, i_aald, i_ast, i_last, i_aast, i_alen, i_new, i_newi, i_newl, i_newq, i_oinit, i_ret, i_zret, i_lret, i_vret, catS, tk, rpush, isO, i_m1, i_m2, i_acopy, i_callV, i_callS, KRet, lget, lput, lputL, lcl0, isL, lv0, List.map_cons, List.map_nil, List.length_cons, List.length_nil, List.cons_append, List.nil_append, Nat.reduceAdd, Nat.reduceSub, Nat.reduceLeDiff, List.replicate_succ, List.replicate_zero, List.getElem?_cons_succ, List.getElem?_cons_zero, List.set_cons_succ, List.set_cons_zero, true_and, and_true, if_true, if_false, ↓reduceIte, Nat.le_refl, Value.category, va_up_app, eq_self, stp, Nat.reduceBEq, Bool.or_false, Bool.false_or, Bool.true_or, Bool.or_true, or_true, true_or, bx_uu, implies_true, true_implies, not_true, not_false_eq_true, false_implies, and_self, Nat.reduceLT, Int32.reduceAdd, Int32.reduceSub, Int32.reduceMul, Int32.reduceLE, Int32.reduceLT, Int32.reduceToNatClampNeg, va_rf_some, Bool.false_eq_true, k_X4_init_0 ca, k_X4_init_1 ca, k_X4_init_4 ca, k_X4_init_5 ca, k_X4_init_7 ca, k_X4_init_9 ca, k_X4_init_12 ca, k_X4_init_13 ca, k_X4_init_14 ca, k_X4_init_15 ca, k_X4_init_17 ca, k_X4_init_20 ca, k_X4_init_21 ca, k_X4_init_24 ca, k_X4_init_25 ca, k_X4_init_26 ca, k_X4_init_27 ca, k_X4_init_28 ca, k_X4_init_29 ca, k_X4_init_32 ca, k_X4_init_35 ca, k_X4_init_36 ca, k_X4_init_37 ca, k_X4_init_39 ca, k_X4_init_42 ca, k_X4_init_43 ca, k_X4_init_46 ca, k_X4_init_47 ca, k_X4_init_49 ca, k_X4_init_50 ca, k_X4_init_51 ca, k_X4_init_52 ca, k_X4_init_55 ca, k_X4_init_58 ca, k_X4_init_59 ca, k_X4_init_60 ca, k_X4_init_63 ca, k_X4_init_66 ca, k_X4_init_67 ca, k_X4_init_68 ca, k_X4_init_69 ca, k_X4_init_70 ca, k_X4_init_73 ca, k_X4_init_74 ca, k_X4_init_77 ca, k_X4_init_78 ca, k_X4_init_81 ca, k_X4_init_82 ca, k_X4_init_85 ca, k_X4_init_86 ca, k_X4_init_87 ca, k_X4_init_90 ca, k_X4_init_91 ca, k_X4_init_94 ca, k_X4_init_95 ca, k_X4_init_98 ca, k_X4_init_99 ca, k_X4_init_102 ca, k_X4_init_105 ca, k_X4_init_106 ca, k_X4_init_108 ca, k_X4_init_111 ca, k_X4_init_112 ca, k_X4_init_113 ca, k_X4_init_115 ca, k_X4_init_118 ca, k_X4_init_119 ca, k_X4_init_120 ca, k_X4_init_122 ca, k_X4_init_125 ca]
      try clear hF hF0 F
      refine ⟨ro, rfl, va_up_self _ _ _, ?_⟩
      rw [bx_uu]
      unfold rmCell at k0
      refine goN go (stp [68]) 160 _ _ _ _ _ _ (fun F hF hF0 => ?_)
      simp only [hF, hF0, ite_not, i_push, i_iload, i_lload, i_aload, i_istore, i_astore, i_lstore, i_iinc, i_bin, i_dv, i_un, i_lbin, i_lsh, i_i2l, i_l2i, i_lcmp, i_dup, i_dup2, i_pop, i_if, i_icmp, i_goto, swG, i_sw, i_getf, i_puti, i_putz, i_putr, i_ald, i_lald, i_aald, i_ast, i_last, i_aast, i_alen, i_new, i_newi, i_newl, i_newq, i_oinit, i_ret, i_zret, i_lret, i_vret, catS, tk, rpush, isO, i_m1, i_m2, i_acopy, i_callV, i_callS, KRet, lget, lput, lputL, lcl0, isL, lv0, List.map_cons, List.map_nil, List.length_cons, List.length_nil, List.cons_append, List.nil_append, Nat.reduceAdd, Nat.reduceSub, Nat.reduceLeDiff, List.replicate_succ, List.replicate_zero, List.getElem?_cons_succ, List.getElem?_cons_zero, List.set_cons_succ, List.set_cons_zero, true_and, and_true, if_true, if_false, ↓reduceIte, Nat.le_refl, Value.category, va_up_app, eq_self, stp, Nat.reduceBEq, Bool.or_false, Bool.false_or, Bool.true_or, Bool.or_true, or_true, true_or, bx_uu, implies_true, true_implies, not_true, not_false_eq_true, false_implies, and_self, Nat.reduceLT, Int32.reduceAdd, Int32.reduceSub, Int32.reduceMul, Int32.reduceLE, Int32.reduceLT, Int32.reduceToNatClampNeg, va_rf_some, Bool.false_eq_true, k_X4_init_0 ca, k_X4_init_1 ca, k_X4_init_4 ca, k_X4_init_5 ca, k_X4_init_7 ca, k_X4_init_9 ca, k_X4_init_12 ca, k_X4_init_13 ca, k_X4_init_14 ca, k_X4_init_15 ca, k_X4_init_17 ca, k_X4_init_20 ca, k_X4_init_21 ca, k_X4_init_24 ca, k_X4_init_25 ca, k_X4_init_26 ca, k_X4_init_27 ca, k_X4_init_28 ca, k_X4_init_29 ca, k_X4_init_32 ca, k_X4_init_35 ca, k_X4_init_36 ca, k_X4_init_37 ca, k_X4_init_39 ca, k_X4_init_42 ca, k_X4_init_43 ca, k_X4_init_46 ca, k_X4_init_47 ca, k_X4_init_49 ca, k_X4_init_50 ca, k_X4_init_51 ca, k_X4_init_52 ca, k_X4_init_55 ca, k_X4_init_58 ca, k_X4_init_59 ca, k_X4_init_60 ca, k_X4_init_63 ca, k_X4_init_66 ca, k_X4_init_67 ca, k_X4_init_68 ca, k_X4_init_69 ca, k_X4_init_70 ca, k_X4_init_73 ca, k_X4_init_74 ca, k_X4_init_77 ca, k_X4_init_78 ca, k_X4_init_81 ca, k_X4_init_82 ca, k_X4_init_85 ca, k_X4_init_86 ca, k_X4_init_87 ca, k_X4_init_90 ca, k_X4_init_91 ca, k_X4_init_94 ca, k_X4_init_95 ca, k_X4_init_98 ca, k_X4_init_99 ca, k_X4_init_102 ca, k_X4_init_105 ca, k_X4_init_106 ca, k_X4_init_108 ca, k_X4_init_111 ca, k_X4_init_112 ca, k_X4_init_113 ca, k_X4_init_115 ca, k_X4_init_118 ca, k_X4_init_119 ca, k_X4_init_120 ca, k_X4_init_122 ca, k_X4_init_125 ca, u4, n34, nro4, v03]
      try clear hF hF0 F
      exact k0
    · show K 9 56 68 [some (.ref a), some (.int (nI 1))] [] H
      rw [n1] at *
      refine goN go (stp [81]) 160 _ _ _ _ _ _ (fun F hF hF0 => ?_)
      simp only [hF, hF0, ite_not, i_push, i_iload, i_lload, i_aload, i_istore, i_astore, i_lstore, i_iinc, i_bin, i_dv, i_un, i_lbin, i_lsh, i_i2l, i_l2i, i_lcmp, i_dup, i_dup2, i_pop, i_if, i_icmp, i_goto, swG, i_sw, i_getf, i_puti, i_putz, i_putr, i_ald, i_lald, i_aald, i_ast, i_last, i_aast, i_alen, i_new, i_newi, i_newl, i_newq, i_oinit, i_ret, i_zret, i_lret, i_vret, catS, tk, rpush, isO, i_m1, i_m2, i_acopy, i_callV, i_callS, KRet, lget, lput, lputL, lcl0, isL, lv0, List.map_cons, List.map_nil, List.length_cons, List.length_nil, List.cons_append, List.nil_append, Nat.reduceAdd, Nat.reduceSub, Nat.reduceLeDiff, List.replicate_succ, List.replicate_zero, List.getElem?_cons_succ, List.getElem?_cons_zero, List.set_cons_succ, List.set_cons_zero, true_and, and_true, if_true, if_false, ↓reduceIte, Nat.le_refl, Value.category, va_up_app, eq_self, stp, Nat.reduceBEq, Bool.or_false, Bool.false_or, Bool.true_or, Bool.or_true, or_true, true_or, bx_uu, implies_true, true_implies, not_true, not_false_eq_true, false_implies, and_self, Nat.reduceLT, Int32.reduceAdd, Int32.reduceSub, Int32.reduceMul, Int32.reduceLE, Int32.reduceLT, Int32.reduceToNatClampNeg, va_rf_some, Bool.false_eq_true, k_X4_init_0 ca, k_X4_init_1 ca, k_X4_init_4 ca, k_X4_init_5 ca, k_X4_init_7 ca, k_X4_init_9 ca, k_X4_init_12 ca, k_X4_init_13 ca, k_X4_init_14 ca, k_X4_init_15 ca, k_X4_init_17 ca, k_X4_init_20 ca, k_X4_init_21 ca, k_X4_init_24 ca, k_X4_init_25 ca, k_X4_init_26 ca, k_X4_init_27 ca, k_X4_init_28 ca, k_X4_init_29 ca, k_X4_init_32 ca, k_X4_init_35 ca, k_X4_init_36 ca, k_X4_init_37 ca, k_X4_init_39 ca, k_X4_init_42 ca, k_X4_init_43 ca, k_X4_init_46 ca, k_X4_init_47 ca, k_X4_init_49 ca, k_X4_init_50 ca, k_X4_init_51 ca, k_X4_init_52 ca, k_X4_init_55 ca, k_X4_init_58 ca, k_X4_init_59 ca, k_X4_init_60 ca, k_X4_init_63 ca, k_X4_init_66 ca, k_X4_init_67 ca, k_X4_init_68 ca, k_X4_init_69 ca, k_X4_init_70 ca, k_X4_init_73 ca, k_X4_init_74 ca, k_X4_init_77 ca, k_X4_init_78 ca, k_X4_init_81 ca, k_X4_init_82 ca, k_X4_init_85 ca, k_X4_init_86 ca, k_X4_init_87 ca, k_X4_init_90 ca, k_X4_init_91 ca, k_X4_init_94 ca, k_X4_init_95 ca, k_X4_init_98 ca, k_X4_init_99 ca, k_X4_init_102 ca, k_X4_init_105 ca, k_X4_init_106 ca, k_X4_init_108 ca, k_X4_init_111 ca, k_X4_init_112 ca, k_X4_init_113 ca, k_X4_init_115 ca, k_X4_init_118 ca, k_X4_init_119 ca, k_X4_init_120 ca, k_X4_init_122 ca, k_X4_init_125 ca, l0]
      try clear hF hF0 F
      intro st hst
      have ast : ¬ a = st := ne_none l0 hst
      refine goN go (stp [85]) 160 _ _ _ _ _ _ (fun F hF hF0 => ?_)
      simp only [hF, hF0, ite_not, i_push, i_iload, i_lload, i_aload, i_istore, i_astore, i_lstore, i_iinc, i_bin, i_dv, i_un, i_lbin, i_lsh, i_i2l, i_l2i, i_lcmp, i_dup, i_dup2, i_pop, i_if, i_icmp, i_goto, swG, i_sw, i_getf, i_puti, i_putz, i_putr, i_ald, i_lald, i_aald, i_ast, i_last, i_aast, i_alen, i_new, i_newi, i_newl, i_newq, i_oinit, i_ret, i_zret, i_lret, i_vret, catS, tk, rpush, isO, i_m1, i_m2, i_acopy, i_callV, i_callS, KRet, lget, lput, lputL, lcl0, isL, lv0, List.map_cons, List.map_nil, List.length_cons, List.length_nil, List.cons_append, List.nil_append, Nat.reduceAdd, Nat.reduceSub, Nat.reduceLeDiff, List.replicate_succ, List.replicate_zero, List.getElem?_cons_succ, List.getElem?_cons_zero, List.set_cons_succ, List.set_cons_zero, true_and, and_true, if_true, if_false, ↓reduceIte, Nat.le_refl, Value.category, va_up_app, eq_self, stp, Nat.reduceBEq, Bool.or_false, Bool.false_or, Bool.true_or, Bool.or_true, or_true, true_or, bx_uu, implies_true, true_implies, not_true, not_false_eq_true, false_implies, and_self, Nat.reduceLT, Int32.reduceAdd, Int32.reduceSub, Int32.reduceMul, Int32.reduceLE, Int32.reduceLT, Int32.reduceToNatClampNeg, va_rf_some, Bool.false_eq_true, k_X4_init_0 ca, k_X4_init_1 ca, k_X4_init_4 ca, k_X4_init_5 ca, k_X4_init_7 ca, k_X4_init_9 ca, k_X4_init_12 ca, k_X4_init_13 ca, k_X4_init_14 ca, k_X4_init_15 ca, k_X4_init_17 ca, k_X4_init_20 ca, k_X4_init_21 ca, k_X4_init_24 ca, k_X4_init_25 ca, k_X4_init_26 ca, k_X4_init_27 ca, k_X4_init_28 ca, k_X4_init_29 ca, k_X4_init_32 ca, k_X4_init_35 ca, k_X4_init_36 ca, k_X4_init_37 ca, k_X4_init_39 ca, k_X4_init_42 ca, k_X4_init_43 ca, k_X4_init_46 ca, k_X4_init_47 ca, k_X4_init_49 ca, k_X4_init_50 ca, k_X4_init_51 ca, k_X4_init_52 ca, k_X4_init_55 ca, k_X4_init_58 ca, k_X4_init_59 ca, k_X4_init_60 ca, k_X4_init_63 ca, k_X4_init_66 ca, k_X4_init_67 ca, k_X4_init_68 ca, k_X4_init_69 ca, k_X4_init_70 ca, k_X4_init_73 ca, k_X4_init_74 ca, k_X4_init_77 ca, k_X4_init_78 ca, k_X4_init_81 ca, k_X4_init_82 ca, k_X4_init_85 ca, k_X4_init_86 ca, k_X4_init_87 ca, k_X4_init_90 ca, k_X4_init_91 ca, k_X4_init_94 ca, k_X4_init_95 ca, k_X4_init_98 ca, k_X4_init_99 ca, k_X4_init_102 ca, k_X4_init_105 ca, k_X4_init_106 ca, k_X4_init_108 ca, k_X4_init_111 ca, k_X4_init_112 ca, k_X4_init_113 ca, k_X4_init_115 ca, k_X4_init_118 ca, k_X4_init_119 ca, k_X4_init_120 ca, k_X4_init_122 ca, k_X4_init_125 ca]
      try clear hF hF0 F
      refine ⟨st, rfl, va_up_self _ _ _, fun G c hc C g0 g1 g2 g3 => ?_⟩
      obtain ⟨u0, u3, u4, u5, u6⟩ := step st _ G c hst C hc g0 g1 g2 g3
      have hG := fun ro => fin st _ G c ro hst C hc g0 g1 g2 g3
      rw [hc] at g0
      refine goN go (stp [94]) 160 _ _ _ _ _ _ (fun F hF hF0 => ?_)
      simp only [hF, hF0, ite_not, i_push, i_iload, i_lload, i_aload, i_istore, i_astore, i_lstore, i_iinc, i_bin, i_dv, i_un, i_lbin, i_lsh, i_i2l, i_l2i, i_lcmp, i_dup, i_dup2, i_pop, i_if, i_icmp, i_goto, swG, i_sw, i_getf, i_puti, i_putz, i_putr, i_ald, i_lald, i_aald, i_ast, i_last, i_aast, i_alen, i_new, i_newi, i_newl, i_newq, i_oinit, i_ret, i_zret, i_lret, i_vret, catS, tk, rpush, isO, i_m1, i_m2, i_acopy, i_callV, i_callS, KRet, lget, lput, lputL, lcl0, isL, lv0, List.map_cons, List.map_nil, List.length_cons, List.length_nil, List.cons_append, List.nil_append, Nat.reduceAdd, Nat.reduceSub, Nat.reduceLeDiff, List.replicate_succ, List.replicate_zero, List.getElem?_cons_succ, List.getElem?_cons_zero, List.set_cons_succ, List.set_cons_zero, true_and, and_true, if_true, if_false, ↓reduceIte, Nat.le_refl, Value.category, va_up_app, eq_self, stp, Nat.reduceBEq, Bool.or_false, Bool.false_or, Bool.true_or, Bool.or_true, or_true, true_or, bx_uu, implies_true, true_implies, not_true, not_false_eq_true, false_implies, and_self, Nat.reduceLT, Int32.reduceAdd, Int32.reduceSub, Int32.reduceMul, Int32.reduceLE, Int32.reduceLT, Int32.reduceToNatClampNeg, va_rf_some, Bool.false_eq_true, k_X4_init_0 ca, k_X4_init_1 ca, k_X4_init_4 ca, k_X4_init_5 ca, k_X4_init_7 ca, k_X4_init_9 ca, k_X4_init_12 ca, k_X4_init_13 ca, k_X4_init_14 ca, k_X4_init_15 ca, k_X4_init_17 ca, k_X4_init_20 ca, k_X4_init_21 ca, k_X4_init_24 ca, k_X4_init_25 ca, k_X4_init_26 ca, k_X4_init_27 ca, k_X4_init_28 ca, k_X4_init_29 ca, k_X4_init_32 ca, k_X4_init_35 ca, k_X4_init_36 ca, k_X4_init_37 ca, k_X4_init_39 ca, k_X4_init_42 ca, k_X4_init_43 ca, k_X4_init_46 ca, k_X4_init_47 ca, k_X4_init_49 ca, k_X4_init_50 ca, k_X4_init_51 ca, k_X4_init_52 ca, k_X4_init_55 ca, k_X4_init_58 ca, k_X4_init_59 ca, k_X4_init_60 ca, k_X4_init_63 ca, k_X4_init_66 ca, k_X4_init_67 ca, k_X4_init_68 ca, k_X4_init_69 ca, k_X4_init_70 ca, k_X4_init_73 ca, k_X4_init_74 ca, k_X4_init_77 ca, k_X4_init_78 ca, k_X4_init_81 ca, k_X4_init_82 ca, k_X4_init_85 ca, k_X4_init_86 ca, k_X4_init_87 ca, k_X4_init_90 ca, k_X4_init_91 ca, k_X4_init_94 ca, k_X4_init_95 ca, k_X4_init_98 ca, k_X4_init_99 ca, k_X4_init_102 ca, k_X4_init_105 ca, k_X4_init_106 ca, k_X4_init_108 ca, k_X4_init_111 ca, k_X4_init_112 ca, k_X4_init_113 ca, k_X4_init_115 ca, k_X4_init_118 ca, k_X4_init_119 ca, k_X4_init_120 ca, k_X4_init_122 ca, k_X4_init_125 ca, g0, u0, u3, u5, na3, v13]
      try clear hF hF0 F
      intro ro hro
      have hro : va_up G (Q 3) (some (.inl (ca 6, 3, .inr (.inr (.inr (.inr (va_up f3 1 (some st)))))))) ro = none := hro
      have k0 := hG ro hro
      have nro4 : ¬ Q 4 = ro := ne_none ((va_up_ne _ _ n34).trans u4) hro
      refine goN go (stp [98]) 160 _ _ _ _ _ _ (fun F hF hF0 => ?_)
      simp only [hF, hF0, ite_not, i_push, i_iload, i_lload, i_aload, i_istore, i_astore, i_lstore, i_iinc, i_bin, i_dv, i_un, i_lbin, i_lsh, i_i2l, i_l2i, i_lcmp, i_dup, i_dup2, i_pop, i_if, i_icmp, i_goto, swG, i_sw, i_getf, i_puti, i_putz, i_putr, i_ald, i_lald, i_aald, i_ast, i_last, i_aast, i_alen, i_new, i_newi, i_newl, i_newq, i_oinit, i_ret, i_zret, i_lret, i_vret, catS, tk, rpush, isO, i_m1, i_m2, i_acopy, i_callV, i_callS, KRet, lget, lput, lputL, lcl0, isL, lv0, List.map_cons, List.map_nil, List.length_cons, List.length_nil, List.cons_append, List.nil_append, Nat.reduceAdd, Nat.reduceSub, Nat.reduceLeDiff, List.replicate_succ, List.replicate_zero, List.getElem?_cons_succ, List.getElem?_cons_zero, List.set_cons_succ, List.set_cons_zero, true_and, and_true, if_true, if_false, ↓reduceIte, Nat.le_refl, Value.category, va_up_app, eq_self, stp, Nat.reduceBEq, Bool.or_false, Bool.false_or, Bool.true_or, Bool.or_true, or_true, true_or, bx_uu, implies_true, true_implies, not_true, not_false_eq_true, false_implies, and_self, Nat.reduceLT, Int32.reduceAdd, Int32.reduceSub, Int32.reduceMul, Int32.reduceLE, Int32.reduceLT, Int32.reduceToNatClampNeg, va_rf_some, Bool.false_eq_true, k_X4_init_0 ca, k_X4_init_1 ca, k_X4_init_4 ca, k_X4_init_5 ca, k_X4_init_7 ca, k_X4_init_9 ca, k_X4_init_12 ca, k_X4_init_13 ca, k_X4_init_14 ca, k_X4_init_15 ca, k_X4_init_17 ca, k_X4_init_20 ca, k_X4_init_21 ca, k_X4_init_24 ca, k_X4_init_25 ca, k_X4_init_26 ca, k_X4_init_27 ca, k_X4_init_28 ca, k_X4_init_29 ca, k_X4_init_32 ca, k_X4_init_35 ca, k_X4_init_36 ca, k_X4_init_37 ca, k_X4_init_39 ca, k_X4_init_42 ca, k_X4_init_43 ca, k_X4_init_46 ca, k_X4_init_47 ca, k_X4_init_49 ca, k_X4_init_50 ca, k_X4_init_51 ca, k_X4_init_52 ca, k_X4_init_55 ca, k_X4_init_58 ca, k_X4_init_59 ca, k_X4_init_60 ca, k_X4_init_63 ca, k_X4_init_66 ca, k_X4_init_67 ca, k_X4_init_68 ca, k_X4_init_69 ca, k_X4_init_70 ca, k_X4_init_73 ca, k_X4_init_74 ca, k_X4_init_77 ca, k_X4_init_78 ca, k_X4_init_81 ca, k_X4_init_82 ca, k_X4_init_85 ca, k_X4_init_86 ca, k_X4_init_87 ca, k_X4_init_90 ca, k_X4_init_91 ca, k_X4_init_94 ca, k_X4_init_95 ca, k_X4_init_98 ca, k_X4_init_99 ca, k_X4_init_102 ca, k_X4_init_105 ca, k_X4_init_106 ca, k_X4_init_108 ca, k_X4_init_111 ca, k_X4_init_112 ca, k_X4_init_113 ca, k_X4_init_115 ca, k_X4_init_118 ca, k_X4_init_119 ca, k_X4_init_120 ca, k_X4_init_122 ca, k_X4_init_125 ca]
      try clear hF hF0 F
      refine ⟨ro, rfl, va_up_self _ _ _, ?_⟩
      rw [bx_uu]
      unfold rmCell at k0
      refine goN go (stp [68]) 160 _ _ _ _ _ _ (fun F hF hF0 => ?_)
      simp only [hF, hF0, ite_not, i_push, i_iload, i_lload, i_aload, i_istore, i_astore, i_lstore, i_iinc, i_bin, i_dv, i_un, i_lbin, i_lsh, i_i2l, i_l2i, i_lcmp, i_dup, i_dup2, i_pop, i_if, i_icmp, i_goto, swG, i_sw, i_getf, i_puti, i_putz, i_putr, i_ald, i_lald, i_aald, i_ast, i_last, i_aast, i_alen, i_new, i_newi, i_newl, i_newq, i_oinit, i_ret, i_zret, i_lret, i_vret, catS, tk, rpush, isO, i_m1, i_m2, i_acopy, i_callV, i_callS, KRet, lget, lput, lputL, lcl0, isL, lv0, List.map_cons, List.map_nil, List.length_cons, List.length_nil, List.cons_append, List.nil_append, Nat.reduceAdd, Nat.reduceSub, Nat.reduceLeDiff, List.replicate_succ, List.replicate_zero, List.getElem?_cons_succ, List.getElem?_cons_zero, List.set_cons_succ, List.set_cons_zero, true_and, and_true, if_true, if_false, ↓reduceIte, Nat.le_refl, Value.category, va_up_app, eq_self, stp, Nat.reduceBEq, Bool.or_false, Bool.false_or, Bool.true_or, Bool.or_true, or_true, true_or, bx_uu, implies_true, true_implies, not_true, not_false_eq_true, false_implies, and_self, Nat.reduceLT, Int32.reduceAdd, Int32.reduceSub, Int32.reduceMul, Int32.reduceLE, Int32.reduceLT, Int32.reduceToNatClampNeg, va_rf_some, Bool.false_eq_true, k_X4_init_0 ca, k_X4_init_1 ca, k_X4_init_4 ca, k_X4_init_5 ca, k_X4_init_7 ca, k_X4_init_9 ca, k_X4_init_12 ca, k_X4_init_13 ca, k_X4_init_14 ca, k_X4_init_15 ca, k_X4_init_17 ca, k_X4_init_20 ca, k_X4_init_21 ca, k_X4_init_24 ca, k_X4_init_25 ca, k_X4_init_26 ca, k_X4_init_27 ca, k_X4_init_28 ca, k_X4_init_29 ca, k_X4_init_32 ca, k_X4_init_35 ca, k_X4_init_36 ca, k_X4_init_37 ca, k_X4_init_39 ca, k_X4_init_42 ca, k_X4_init_43 ca, k_X4_init_46 ca, k_X4_init_47 ca, k_X4_init_49 ca, k_X4_init_50 ca, k_X4_init_51 ca, k_X4_init_52 ca, k_X4_init_55 ca, k_X4_init_58 ca, k_X4_init_59 ca, k_X4_init_60 ca, k_X4_init_63 ca, k_X4_init_66 ca, k_X4_init_67 ca, k_X4_init_68 ca, k_X4_init_69 ca, k_X4_init_70 ca, k_X4_init_73 ca, k_X4_init_74 ca, k_X4_init_77 ca, k_X4_init_78 ca, k_X4_init_81 ca, k_X4_init_82 ca, k_X4_init_85 ca, k_X4_init_86 ca, k_X4_init_87 ca, k_X4_init_90 ca, k_X4_init_91 ca, k_X4_init_94 ca, k_X4_init_95 ca, k_X4_init_98 ca, k_X4_init_99 ca, k_X4_init_102 ca, k_X4_init_105 ca, k_X4_init_106 ca, k_X4_init_108 ca, k_X4_init_111 ca, k_X4_init_112 ca, k_X4_init_113 ca, k_X4_init_115 ca, k_X4_init_118 ca, k_X4_init_119 ca, k_X4_init_120 ca, k_X4_init_122 ca, k_X4_init_125 ca, u4, n34, nro4, v13]
      try clear hF hF0 F
      exact k0
    · show K 14 98 68 [some (.ref a), some (.int (nI 2))] [] H
      rw [n2] at *
      refine goN go (stp [81]) 160 _ _ _ _ _ _ (fun F hF hF0 => ?_)
      simp only [hF, hF0, ite_not, i_push, i_iload, i_lload, i_aload, i_istore, i_astore, i_lstore, i_iinc, i_bin, i_dv, i_un, i_lbin, i_lsh, i_i2l, i_l2i, i_lcmp, i_dup, i_dup2, i_pop, i_if, i_icmp, i_goto, swG, i_sw, i_getf, i_puti, i_putz, i_putr, i_ald, i_lald, i_aald, i_ast, i_last, i_aast, i_alen, i_new, i_newi, i_newl, i_newq, i_oinit, i_ret, i_zret, i_lret, i_vret, catS, tk, rpush, isO, i_m1, i_m2, i_acopy, i_callV, i_callS, KRet, lget, lput, lputL, lcl0, isL, lv0, List.map_cons, List.map_nil, List.length_cons, List.length_nil, List.cons_append, List.nil_append, Nat.reduceAdd, Nat.reduceSub, Nat.reduceLeDiff, List.replicate_succ, List.replicate_zero, List.getElem?_cons_succ, List.getElem?_cons_zero, List.set_cons_succ, List.set_cons_zero, true_and, and_true, if_true, if_false, ↓reduceIte, Nat.le_refl, Value.category, va_up_app, eq_self, stp, Nat.reduceBEq, Bool.or_false, Bool.false_or, Bool.true_or, Bool.or_true, or_true, true_or, bx_uu, implies_true, true_implies, not_true, not_false_eq_true, false_implies, and_self, Nat.reduceLT, Int32.reduceAdd, Int32.reduceSub, Int32.reduceMul, Int32.reduceLE, Int32.reduceLT, Int32.reduceToNatClampNeg, va_rf_some, Bool.false_eq_true, k_X4_init_0 ca, k_X4_init_1 ca, k_X4_init_4 ca, k_X4_init_5 ca, k_X4_init_7 ca, k_X4_init_9 ca, k_X4_init_12 ca, k_X4_init_13 ca, k_X4_init_14 ca, k_X4_init_15 ca, k_X4_init_17 ca, k_X4_init_20 ca, k_X4_init_21 ca, k_X4_init_24 ca, k_X4_init_25 ca, k_X4_init_26 ca, k_X4_init_27 ca, k_X4_init_28 ca, k_X4_init_29 ca, k_X4_init_32 ca, k_X4_init_35 ca, k_X4_init_36 ca, k_X4_init_37 ca, k_X4_init_39 ca, k_X4_init_42 ca, k_X4_init_43 ca, k_X4_init_46 ca, k_X4_init_47 ca, k_X4_init_49 ca, k_X4_init_50 ca, k_X4_init_51 ca, k_X4_init_52 ca, k_X4_init_55 ca, k_X4_init_58 ca, k_X4_init_59 ca, k_X4_init_60 ca, k_X4_init_63 ca, k_X4_init_66 ca, k_X4_init_67 ca, k_X4_init_68 ca, k_X4_init_69 ca, k_X4_init_70 ca, k_X4_init_73 ca, k_X4_init_74 ca, k_X4_init_77 ca, k_X4_init_78 ca, k_X4_init_81 ca, k_X4_init_82 ca, k_X4_init_85 ca, k_X4_init_86 ca, k_X4_init_87 ca, k_X4_init_90 ca, k_X4_init_91 ca, k_X4_init_94 ca, k_X4_init_95 ca, k_X4_init_98 ca, k_X4_init_99 ca, k_X4_init_102 ca, k_X4_init_105 ca, k_X4_init_106 ca, k_X4_init_108 ca, k_X4_init_111 ca, k_X4_init_112 ca, k_X4_init_113 ca, k_X4_init_115 ca, k_X4_init_118 ca, k_X4_init_119 ca, k_X4_init_120 ca, k_X4_init_122 ca, k_X4_init_125 ca, l0]
      try clear hF hF0 F
      intro st hst
      have ast : ¬ a = st := ne_none l0 hst
      refine goN go (stp [85]) 160 _ _ _ _ _ _ (fun F hF hF0 => ?_)
      simp only [hF, hF0, ite_not, i_push, i_iload, i_lload, i_aload, i_istore, i_astore, i_lstore, i_iinc, i_bin, i_dv, i_un, i_lbin, i_lsh, i_i2l, i_l2i, i_lcmp, i_dup, i_dup2, i_pop, i_if, i_icmp, i_goto, swG, i_sw, i_getf, i_puti, i_putz, i_putr, i_ald, i_lald, i_aald, i_ast, i_last, i_aast, i_alen, i_new, i_newi, i_newl, i_newq, i_oinit, i_ret, i_zret, i_lret, i_vret, catS, tk, rpush, isO, i_m1, i_m2, i_acopy, i_callV, i_callS, KRet, lget, lput, lputL, lcl0, isL, lv0, List.map_cons, List.map_nil, List.length_cons, List.length_nil, List.cons_append, List.nil_append, Nat.reduceAdd, Nat.reduceSub, Nat.reduceLeDiff, List.replicate_succ, List.replicate_zero, List.getElem?_cons_succ, List.getElem?_cons_zero, List.set_cons_succ, List.set_cons_zero, true_and, and_true, if_true, if_false, ↓reduceIte, Nat.le_refl, Value.category, va_up_app, eq_self, stp, Nat.reduceBEq, Bool.or_false, Bool.false_or, Bool.true_or, Bool.or_true, or_true, true_or, bx_uu, implies_true, true_implies, not_true, not_false_eq_true, false_implies, and_self, Nat.reduceLT, Int32.reduceAdd, Int32.reduceSub, Int32.reduceMul, Int32.reduceLE, Int32.reduceLT, Int32.reduceToNatClampNeg, va_rf_some, Bool.false_eq_true, k_X4_init_0 ca, k_X4_init_1 ca, k_X4_init_4 ca, k_X4_init_5 ca, k_X4_init_7 ca, k_X4_init_9 ca, k_X4_init_12 ca, k_X4_init_13 ca, k_X4_init_14 ca, k_X4_init_15 ca, k_X4_init_17 ca, k_X4_init_20 ca, k_X4_init_21 ca, k_X4_init_24 ca, k_X4_init_25 ca, k_X4_init_26 ca, k_X4_init_27 ca, k_X4_init_28 ca, k_X4_init_29 ca, k_X4_init_32 ca, k_X4_init_35 ca, k_X4_init_36 ca, k_X4_init_37 ca, k_X4_init_39 ca, k_X4_init_42 ca, k_X4_init_43 ca, k_X4_init_46 ca, k_X4_init_47 ca, k_X4_init_49 ca, k_X4_init_50 ca, k_X4_init_51 ca, k_X4_init_52 ca, k_X4_init_55 ca, k_X4_init_58 ca, k_X4_init_59 ca, k_X4_init_60 ca, k_X4_init_63 ca, k_X4_init_66 ca, k_X4_init_67 ca, k_X4_init_68 ca, k_X4_init_69 ca, k_X4_init_70 ca, k_X4_init_73 ca, k_X4_init_74 ca, k_X4_init_77 ca, k_X4_init_78 ca, k_X4_init_81 ca, k_X4_init_82 ca, k_X4_init_85 ca, k_X4_init_86 ca, k_X4_init_87 ca, k_X4_init_90 ca, k_X4_init_91 ca, k_X4_init_94 ca, k_X4_init_95 ca, k_X4_init_98 ca, k_X4_init_99 ca, k_X4_init_102 ca, k_X4_init_105 ca, k_X4_init_106 ca, k_X4_init_108 ca, k_X4_init_111 ca, k_X4_init_112 ca, k_X4_init_113 ca, k_X4_init_115 ca, k_X4_init_118 ca, k_X4_init_119 ca, k_X4_init_120 ca, k_X4_init_122 ca, k_X4_init_125 ca]
      try clear hF hF0 F
      refine ⟨st, rfl, va_up_self _ _ _, fun G c hc C g0 g1 g2 g3 => ?_⟩
      obtain ⟨u0, u3, u4, u5, u6⟩ := step st _ G c hst C hc g0 g1 g2 g3
      have hG := fun ro => fin st _ G c ro hst C hc g0 g1 g2 g3
      rw [hc] at g0
      refine goN go (stp [94]) 160 _ _ _ _ _ _ (fun F hF hF0 => ?_)
      simp only [hF, hF0, ite_not, i_push, i_iload, i_lload, i_aload, i_istore, i_astore, i_lstore, i_iinc, i_bin, i_dv, i_un, i_lbin, i_lsh, i_i2l, i_l2i, i_lcmp, i_dup, i_dup2, i_pop, i_if, i_icmp, i_goto, swG, i_sw, i_getf, i_puti, i_putz, i_putr, i_ald, i_lald, i_aald, i_ast, i_last, i_aast, i_alen, i_new, i_newi, i_newl, i_newq, i_oinit, i_ret, i_zret, i_lret, i_vret, catS, tk, rpush, isO, i_m1, i_m2, i_acopy, i_callV, i_callS, KRet, lget, lput, lputL, lcl0, isL, lv0, List.map_cons, List.map_nil, List.length_cons, List.length_nil, List.cons_append, List.nil_append, Nat.reduceAdd, Nat.reduceSub, Nat.reduceLeDiff, List.replicate_succ, List.replicate_zero, List.getElem?_cons_succ, List.getElem?_cons_zero, List.set_cons_succ, List.set_cons_zero, true_and, and_true, if_true, if_false, ↓reduceIte, Nat.le_refl, Value.category, va_up_app, eq_self, stp, Nat.reduceBEq, Bool.or_false, Bool.false_or, Bool.true_or, Bool.or_true, or_true, true_or, bx_uu, implies_true, true_implies, not_true, not_false_eq_true, false_implies, and_self, Nat.reduceLT, Int32.reduceAdd, Int32.reduceSub, Int32.reduceMul, Int32.reduceLE, Int32.reduceLT, Int32.reduceToNatClampNeg, va_rf_some, Bool.false_eq_true, k_X4_init_0 ca, k_X4_init_1 ca, k_X4_init_4 ca, k_X4_init_5 ca, k_X4_init_7 ca, k_X4_init_9 ca, k_X4_init_12 ca, k_X4_init_13 ca, k_X4_init_14 ca, k_X4_init_15 ca, k_X4_init_17 ca, k_X4_init_20 ca, k_X4_init_21 ca, k_X4_init_24 ca, k_X4_init_25 ca, k_X4_init_26 ca, k_X4_init_27 ca, k_X4_init_28 ca, k_X4_init_29 ca, k_X4_init_32 ca, k_X4_init_35 ca, k_X4_init_36 ca, k_X4_init_37 ca, k_X4_init_39 ca, k_X4_init_42 ca, k_X4_init_43 ca, k_X4_init_46 ca, k_X4_init_47 ca, k_X4_init_49 ca, k_X4_init_50 ca, k_X4_init_51 ca, k_X4_init_52 ca, k_X4_init_55 ca, k_X4_init_58 ca, k_X4_init_59 ca, k_X4_init_60 ca, k_X4_init_63 ca, k_X4_init_66 ca, k_X4_init_67 ca, k_X4_init_68 ca, k_X4_init_69 ca, k_X4_init_70 ca, k_X4_init_73 ca, k_X4_init_74 ca, k_X4_init_77 ca, k_X4_init_78 ca, k_X4_init_81 ca, k_X4_init_82 ca, k_X4_init_85 ca, k_X4_init_86 ca, k_X4_init_87 ca, k_X4_init_90 ca, k_X4_init_91 ca, k_X4_init_94 ca, k_X4_init_95 ca, k_X4_init_98 ca, k_X4_init_99 ca, k_X4_init_102 ca, k_X4_init_105 ca, k_X4_init_106 ca, k_X4_init_108 ca, k_X4_init_111 ca, k_X4_init_112 ca, k_X4_init_113 ca, k_X4_init_115 ca, k_X4_init_118 ca, k_X4_init_119 ca, k_X4_init_120 ca, k_X4_init_122 ca, k_X4_init_125 ca, g0, u0, u3, u5, na3, v23]
      try clear hF hF0 F
      intro ro hro
      have hro : va_up G (Q 3) (some (.inl (ca 6, 3, .inr (.inr (.inr (.inr (va_up f3 2 (some st)))))))) ro = none := hro
      have k0 := hG ro hro
      have nro4 : ¬ Q 4 = ro := ne_none ((va_up_ne _ _ n34).trans u4) hro
      refine goN go (stp [98]) 160 _ _ _ _ _ _ (fun F hF hF0 => ?_)
      simp only [hF, hF0, ite_not, i_push, i_iload, i_lload, i_aload, i_istore, i_astore, i_lstore, i_iinc, i_bin, i_dv, i_un, i_lbin, i_lsh, i_i2l, i_l2i, i_lcmp, i_dup, i_dup2, i_pop, i_if, i_icmp, i_goto, swG, i_sw, i_getf, i_puti, i_putz, i_putr, i_ald, i_lald, i_aald, i_ast, i_last, i_aast, i_alen, i_new, i_newi, i_newl, i_newq, i_oinit, i_ret, i_zret, i_lret, i_vret, catS, tk, rpush, isO, i_m1, i_m2, i_acopy, i_callV, i_callS, KRet, lget, lput, lputL, lcl0, isL, lv0, List.map_cons, List.map_nil, List.length_cons, List.length_nil, List.cons_append, List.nil_append, Nat.reduceAdd, Nat.reduceSub, Nat.reduceLeDiff, List.replicate_succ, List.replicate_zero, List.getElem?_cons_succ, List.getElem?_cons_zero, List.set_cons_succ, List.set_cons_zero, true_and, and_true, if_true, if_false, ↓reduceIte, Nat.le_refl, Value.category, va_up_app, eq_self, stp, Nat.reduceBEq, Bool.or_false, Bool.false_or, Bool.true_or, Bool.or_true, or_true, true_or, bx_uu, implies_true, true_implies, not_true, not_false_eq_true, false_implies, and_self, Nat.reduceLT, Int32.reduceAdd, Int32.reduceSub, Int32.reduceMul, Int32.reduceLE, Int32.reduceLT, Int32.reduceToNatClampNeg, va_rf_some, Bool.false_eq_true, k_X4_init_0 ca, k_X4_init_1 ca, k_X4_init_4 ca, k_X4_init_5 ca, k_X4_init_7 ca, k_X4_init_9 ca, k_X4_init_12 ca, k_X4_init_13 ca, k_X4_init_14 ca, k_X4_init_15 ca, k_X4_init_17 ca, k_X4_init_20 ca, k_X4_init_21 ca, k_X4_init_24 ca, k_X4_init_25 ca, k_X4_init_26 ca, k_X4_init_27 ca, k_X4_init_28 ca, k_X4_init_29 ca, k_X4_init_32 ca, k_X4_init_35 ca, k_X4_init_36 ca, k_X4_init_37 ca, k_X4_init_39 ca, k_X4_init_42 ca, k_X4_init_43 ca, k_X4_init_46 ca, k_X4_init_47 ca, k_X4_init_49 ca, k_X4_init_50 ca, k_X4_init_51 ca, k_X4_init_52 ca, k_X4_init_55 ca, k_X4_init_58 ca, k_X4_init_59 ca, k_X4_init_60 ca, k_X4_init_63 ca, k_X4_init_66 ca, k_X4_init_67 ca, k_X4_init_68 ca, k_X4_init_69 ca, k_X4_init_70 ca, k_X4_init_73 ca, k_X4_init_74 ca, k_X4_init_77 ca, k_X4_init_78 ca, k_X4_init_81 ca, k_X4_init_82 ca, k_X4_init_85 ca, k_X4_init_86 ca, k_X4_init_87 ca, k_X4_init_90 ca, k_X4_init_91 ca, k_X4_init_94 ca, k_X4_init_95 ca, k_X4_init_98 ca, k_X4_init_99 ca, k_X4_init_102 ca, k_X4_init_105 ca, k_X4_init_106 ca, k_X4_init_108 ca, k_X4_init_111 ca, k_X4_init_112 ca, k_X4_init_113 ca, k_X4_init_115 ca, k_X4_init_118 ca, k_X4_init_119 ca, k_X4_init_120 ca, k_X4_init_122 ca, k_X4_init_125 ca]
      try clear hF hF0 F
      refine ⟨ro, rfl, va_up_self _ _ _, ?_⟩
      rw [bx_uu]
      unfold rmCell at k0
      refine goN go (stp [68]) 160 _ _ _ _ _ _ (fun F hF hF0 => ?_)
      simp only [hF, hF0, ite_not, i_push, i_iload, i_lload, i_aload, i_istore, i_astore, i_lstore, i_iinc, i_bin, i_dv, i_un, i_lbin, i_lsh, i_i2l, i_l2i, i_lcmp, i_dup, i_dup2, i_pop, i_if, i_icmp, i_goto, swG, i_sw, i_getf, i_puti, i_putz, i_putr, i_ald, i_lald, i_aald, i_ast, i_last, i_aast, i_alen, i_new, i_newi, i_newl, i_newq, i_oinit, i_ret, i_zret, i_lret, i_vret, catS, tk, rpush, isO, i_m1, i_m2, i_acopy, i_callV, i_callS, KRet, lget, lput, lputL, lcl0, isL, lv0, List.map_cons, List.map_nil, List.length_cons, List.length_nil, List.cons_append, List.nil_append, Nat.reduceAdd, Nat.reduceSub, Nat.reduceLeDiff, List.replicate_succ, List.replicate_zero, List.getElem?_cons_succ, List.getElem?_cons_zero, List.set_cons_succ, List.set_cons_zero, true_and, and_true, if_true, if_false, ↓reduceIte, Nat.le_refl, Value.category, va_up_app, eq_self, stp, Nat.reduceBEq, Bool.or_false, Bool.false_or, Bool.true_or, Bool.or_true, or_true, true_or, bx_uu, implies_true, true_implies, not_true, not_false_eq_true, false_implies, and_self, Nat.reduceLT, Int32.reduceAdd, Int32.reduceSub, Int32.reduceMul, Int32.reduceLE, Int32.reduceLT, Int32.reduceToNatClampNeg, va_rf_some, Bool.false_eq_true, k_X4_init_0 ca, k_X4_init_1 ca, k_X4_init_4 ca, k_X4_init_5 ca, k_X4_init_7 ca, k_X4_init_9 ca, k_X4_init_12 ca, k_X4_init_13 ca, k_X4_init_14 ca, k_X4_init_15 ca, k_X4_init_17 ca, k_X4_init_20 ca, k_X4_init_21 ca, k_X4_init_24 ca, k_X4_init_25 ca, k_X4_init_26 ca, k_X4_init_27 ca, k_X4_init_28 ca, k_X4_init_29 ca, k_X4_init_32 ca, k_X4_init_35 ca, k_X4_init_36 ca, k_X4_init_37 ca, k_X4_init_39 ca, k_X4_init_42 ca, k_X4_init_43 ca, k_X4_init_46 ca, k_X4_init_47 ca, k_X4_init_49 ca, k_X4_init_50 ca, k_X4_init_51 ca, k_X4_init_52 ca, k_X4_init_55 ca, k_X4_init_58 ca, k_X4_init_59 ca, k_X4_init_60 ca, k_X4_init_63 ca, k_X4_init_66 ca, k_X4_init_67 ca, k_X4_init_68 ca, k_X4_init_69 ca, k_X4_init_70 ca, k_X4_init_73 ca, k_X4_init_74 ca, k_X4_init_77 ca, k_X4_init_78 ca, k_X4_init_81 ca, k_X4_init_82 ca, k_X4_init_85 ca, k_X4_init_86 ca, k_X4_init_87 ca, k_X4_init_90 ca, k_X4_init_91 ca, k_X4_init_94 ca, k_X4_init_95 ca, k_X4_init_98 ca, k_X4_init_99 ca, k_X4_init_102 ca, k_X4_init_105 ca, k_X4_init_106 ca, k_X4_init_108 ca, k_X4_init_111 ca, k_X4_init_112 ca, k_X4_init_113 ca, k_X4_init_115 ca, k_X4_init_118 ca, k_X4_init_119 ca, k_X4_init_120 ca, k_X4_init_122 ca, k_X4_init_125 ca, u4, n34, nro4, v23]
      try clear hF hF0 F
      exact k0
  have loops : ∀ H Q, Q 0 = a → LSx ca h H Q 0 → K 4 14 68 [some (.ref a), some (.int 0)] [] H := by
    intro H Q hQ0 hL
    refine it 0 (by decide) H Q hQ0 hL (fun H1 Q1 hQ1 hL1 => ?_)
    refine it 1 (by decide) H1 Q1 hQ1 hL1 (fun H2 Q2 hQ2 hL2 => ?_)
    refine it 2 (by decide) H2 Q2 hQ2 hL2 (fun H3 Q3 hQ3 hL3 => ?_)
    exact last H3 Q3 hQ3 hL3
  clear it last
  refine goN go (stp [14]) 160 _ _ _ _ _ _ (fun F hF hF0 => ?_)
  simp only [hF, hF0, ite_not, i_push, i_iload, i_lload, i_aload, i_istore, i_astore, i_lstore, i_iinc, i_bin, i_dv, i_un, i_lbin, i_lsh, i_i2l, i_l2i, i_lcmp, i_dup, i_dup2, i_pop, i_if, i_icmp, i_goto, swG, i_sw, i_getf, i_puti, i_putz, i_putr, i_ald, i_lald, i_aald, i_ast, i_last, i_aast, i_alen, i_new, i_newi, i_newl, i_newq, i_oinit, i_ret, i_zret, i_lret, i_vret, catS, tk, rpush, isO, i_m1, i_m2, i_acopy, i_callV, i_callS, KRet, lget, lput, lputL, lcl0, isL, lv0, List.map_cons, List.map_nil, List.length_cons, List.length_nil, List.cons_append, List.nil_append, Nat.reduceAdd, Nat.reduceSub, Nat.reduceLeDiff, List.replicate_succ, List.replicate_zero, List.getElem?_cons_succ, List.getElem?_cons_zero, List.set_cons_succ, List.set_cons_zero, true_and, and_true, if_true, if_false, ↓reduceIte, Nat.le_refl, Value.category, va_up_app, eq_self, stp, Nat.reduceBEq, Bool.or_false, Bool.false_or, Bool.true_or, Bool.or_true, or_true, true_or, bx_uu, implies_true, true_implies, not_true, not_false_eq_true, false_implies, and_self, Nat.reduceLT, Int32.reduceAdd, Int32.reduceSub, Int32.reduceMul, Int32.reduceLE, Int32.reduceLT, Int32.reduceToNatClampNeg, va_rf_some, Bool.false_eq_true, k_X4_init_0 ca, k_X4_init_1 ca, k_X4_init_4 ca, k_X4_init_5 ca, k_X4_init_7 ca, k_X4_init_9 ca, k_X4_init_12 ca, k_X4_init_13 ca, k_X4_init_14 ca, k_X4_init_15 ca, k_X4_init_17 ca, k_X4_init_20 ca, k_X4_init_21 ca, k_X4_init_24 ca, k_X4_init_25 ca, k_X4_init_26 ca, k_X4_init_27 ca, k_X4_init_28 ca, k_X4_init_29 ca, k_X4_init_32 ca, k_X4_init_35 ca, k_X4_init_36 ca, k_X4_init_37 ca, k_X4_init_39 ca, k_X4_init_42 ca, k_X4_init_43 ca, k_X4_init_46 ca, k_X4_init_47 ca, k_X4_init_49 ca, k_X4_init_50 ca, k_X4_init_51 ca, k_X4_init_52 ca, k_X4_init_55 ca, k_X4_init_58 ca, k_X4_init_59 ca, k_X4_init_60 ca, k_X4_init_63 ca, k_X4_init_66 ca, k_X4_init_67 ca, k_X4_init_68 ca, k_X4_init_69 ca, k_X4_init_70 ca, k_X4_init_73 ca, k_X4_init_74 ca, k_X4_init_77 ca, k_X4_init_78 ca, k_X4_init_81 ca, k_X4_init_82 ca, k_X4_init_85 ca, k_X4_init_86 ca, k_X4_init_87 ca, k_X4_init_90 ca, k_X4_init_91 ca, k_X4_init_94 ca, k_X4_init_95 ca, k_X4_init_98 ca, k_X4_init_99 ca, k_X4_init_102 ca, k_X4_init_105 ca, k_X4_init_106 ca, k_X4_init_108 ca, k_X4_init_111 ca, k_X4_init_112 ca, k_X4_init_113 ca, k_X4_init_115 ca, k_X4_init_118 ca, k_X4_init_119 ca, k_X4_init_120 ca, k_X4_init_122 ca, k_X4_init_125 ca, ha, d1]
  try clear hF hF0 F
  generalize hH1 : va_up (va_up h q1 (some (.inl (ca 0, 6, .inl (fun _ => 0))))) a (some (.inr (4, [.ref q1, .null, .null, .null, .int 0, .int 0, .null, .null]))) = H1 at *
  have a1 : H1 a = some (.inr (4, [.ref q1, .null, .null, .null, .int 0, .int 0, .null, .null])) := by rw [← hH1]; exact va_up_self _ _ _
  have b1 : H1 q1 = some (.inl (ca 0, 6, .inl (fun _ => 0))) := by rw [← hH1]; exact (va_up_ne _ _ d1').trans (va_up_self _ _ _)
  clear hH1
  have key : ∀ r j f, j + r = 6 → (∀ i, i < j → f i = 5 * nI i) → K 1 6 14 [some (.ref a), some (.int (nI j))] [] (va_up H1 q1 (some (.inl (ca 0, 6, .inl f)))) := by
    intro r
    induction r with
    | zero =>
      intro j f hj hf
      have hj : j = 6 := hj
      subst hj
      have e : nI 6 = 6 := rfl
      have V1 : Bk h (va_up H1 q1 (some (.inl (ca 0, 6, .inl f)))) (Qa (fun _ => a) 1 (fun _ => q1)) 2 := B1u.up (i := 1) (by decide) _
      have c0 : va_up H1 q1 (some (.inl (ca 0, 6, .inl f))) a = some (.inr (4, [.ref q1, .null, .null, .null, .int 0, .int 0, .null, .null])) := (va_up_ne _ _ d1).trans a1
      have c1 : va_up H1 q1 (some (.inl (ca 0, 6, .inl f))) q1 = some (.inl (ca 0, 6, .inl f)) := va_up_self _ _ _
      generalize va_up H1 q1 (some (.inl (ca 0, 6, .inl f))) = G at *
      refine goN go (stp [39]) 160 _ _ _ _ _ _ (fun F hF hF0 => ?_)
      simp only [hF, hF0, ite_not, i_push, i_iload, i_lload, i_aload, i_istore, i_astore, i_lstore, i_iinc, i_bin, i_dv, i_un, i_lbin, i_lsh, i_i2l, i_l2i, i_lcmp, i_dup, i_dup2, i_pop, i_if, i_icmp, i_goto, swG, i_sw, i_getf, i_puti, i_putz, i_putr, i_ald, i_lald, i_aald, i_ast, i_last, i_aast, i_alen, i_new, i_newi, i_newl, i_newq, i_oinit, i_ret, i_zret, i_lret, i_vret, catS, tk, rpush, isO, i_m1, i_m2, i_acopy, i_callV, i_callS, KRet, lget, lput, lputL, lcl0, isL, lv0, List.map_cons, List.map_nil, List.length_cons, List.length_nil, List.cons_append, List.nil_append, Nat.reduceAdd, Nat.reduceSub, Nat.reduceLeDiff, List.replicate_succ, List.replicate_zero, List.getElem?_cons_succ, List.getElem?_cons_zero, List.set_cons_succ, List.set_cons_zero, true_and, and_true, if_true, if_false, ↓reduceIte, Nat.le_refl, Value.category, va_up_app, eq_self, stp, Nat.reduceBEq, Bool.or_false, Bool.false_or, Bool.true_or, Bool.or_true, or_true, true_or, bx_uu, implies_true, true_implies, not_true, not_false_eq_true, false_implies, and_self, Nat.reduceLT, Int32.reduceAdd, Int32.reduceSub, Int32.reduceMul, Int32.reduceLE, Int32.reduceLT, Int32.reduceToNatClampNeg, va_rf_some, Bool.false_eq_true, k_X4_init_0 ca, k_X4_init_1 ca, k_X4_init_4 ca, k_X4_init_5 ca, k_X4_init_7 ca, k_X4_init_9 ca, k_X4_init_12 ca, k_X4_init_13 ca, k_X4_init_14 ca, k_X4_init_15 ca, k_X4_init_17 ca, k_X4_init_20 ca, k_X4_init_21 ca, k_X4_init_24 ca, k_X4_init_25 ca, k_X4_init_26 ca, k_X4_init_27 ca, k_X4_init_28 ca, k_X4_init_29 ca, k_X4_init_32 ca, k_X4_init_35 ca, k_X4_init_36 ca, k_X4_init_37 ca, k_X4_init_39 ca, k_X4_init_42 ca, k_X4_init_43 ca, k_X4_init_46 ca, k_X4_init_47 ca, k_X4_init_49 ca, k_X4_init_50 ca, k_X4_init_51 ca, k_X4_init_52 ca, k_X4_init_55 ca, k_X4_init_58 ca, k_X4_init_59 ca, k_X4_init_60 ca, k_X4_init_63 ca, k_X4_init_66 ca, k_X4_init_67 ca, k_X4_init_68 ca, k_X4_init_69 ca, k_X4_init_70 ca, k_X4_init_73 ca, k_X4_init_74 ca, k_X4_init_77 ca, k_X4_init_78 ca, k_X4_init_81 ca, k_X4_init_82 ca, k_X4_init_85 ca, k_X4_init_86 ca, k_X4_init_87 ca, k_X4_init_90 ca, k_X4_init_91 ca, k_X4_init_94 ca, k_X4_init_95 ca, k_X4_init_98 ca, k_X4_init_99 ca, k_X4_init_102 ca, k_X4_init_105 ca, k_X4_init_106 ca, k_X4_init_108 ca, k_X4_init_111 ca, k_X4_init_112 ca, k_X4_init_113 ca, k_X4_init_115 ca, k_X4_init_118 ca, k_X4_init_119 ca, k_X4_init_120 ca, k_X4_init_122 ca, k_X4_init_125 ca, e, c0]
      try clear hF hF0 F
      intro q2 hq2
      have V2 := V1.new (by decide) hq2 (.inl (ca 0, 2, .inl (fun _ => 0)))
      have d2 : ¬ a = q2 := ne_none c0 hq2
      have d2' : ¬ q2 = a := fun z => d2 z.symm
      have d12 : ¬ q1 = q2 := ne_none c1 hq2
      refine goN go (stp [55]) 160 _ _ _ _ _ _ (fun F hF hF0 => ?_)
      simp only [hF, hF0, ite_not, i_push, i_iload, i_lload, i_aload, i_istore, i_astore, i_lstore, i_iinc, i_bin, i_dv, i_un, i_lbin, i_lsh, i_i2l, i_l2i, i_lcmp, i_dup, i_dup2, i_pop, i_if, i_icmp, i_goto, swG, i_sw, i_getf, i_puti, i_putz, i_putr, i_ald, i_lald, i_aald, i_ast, i_last, i_aast, i_alen, i_new, i_newi, i_newl, i_newq, i_oinit, i_ret, i_zret, i_lret, i_vret, catS, tk, rpush, isO, i_m1, i_m2, i_acopy, i_callV, i_callS, KRet, lget, lput, lputL, lcl0, isL, lv0, List.map_cons, List.map_nil, List.length_cons, List.length_nil, List.cons_append, List.nil_append, Nat.reduceAdd, Nat.reduceSub, Nat.reduceLeDiff, List.replicate_succ, List.replicate_zero, List.getElem?_cons_succ, List.getElem?_cons_zero, List.set_cons_succ, List.set_cons_zero, true_and, and_true, if_true, if_false, ↓reduceIte, Nat.le_refl, Value.category, va_up_app, eq_self, stp, Nat.reduceBEq, Bool.or_false, Bool.false_or, Bool.true_or, Bool.or_true, or_true, true_or, bx_uu, implies_true, true_implies, not_true, not_false_eq_true, false_implies, and_self, Nat.reduceLT, Int32.reduceAdd, Int32.reduceSub, Int32.reduceMul, Int32.reduceLE, Int32.reduceLT, Int32.reduceToNatClampNeg, va_rf_some, Bool.false_eq_true, k_X4_init_0 ca, k_X4_init_1 ca, k_X4_init_4 ca, k_X4_init_5 ca, k_X4_init_7 ca, k_X4_init_9 ca, k_X4_init_12 ca, k_X4_init_13 ca, k_X4_init_14 ca, k_X4_init_15 ca, k_X4_init_17 ca, k_X4_init_20 ca, k_X4_init_21 ca, k_X4_init_24 ca, k_X4_init_25 ca, k_X4_init_26 ca, k_X4_init_27 ca, k_X4_init_28 ca, k_X4_init_29 ca, k_X4_init_32 ca, k_X4_init_35 ca, k_X4_init_36 ca, k_X4_init_37 ca, k_X4_init_39 ca, k_X4_init_42 ca, k_X4_init_43 ca, k_X4_init_46 ca, k_X4_init_47 ca, k_X4_init_49 ca, k_X4_init_50 ca, k_X4_init_51 ca, k_X4_init_52 ca, k_X4_init_55 ca, k_X4_init_58 ca, k_X4_init_59 ca, k_X4_init_60 ca, k_X4_init_63 ca, k_X4_init_66 ca, k_X4_init_67 ca, k_X4_init_68 ca, k_X4_init_69 ca, k_X4_init_70 ca, k_X4_init_73 ca, k_X4_init_74 ca, k_X4_init_77 ca, k_X4_init_78 ca, k_X4_init_81 ca, k_X4_init_82 ca, k_X4_init_85 ca, k_X4_init_86 ca, k_X4_init_87 ca, k_X4_init_90 ca, k_X4_init_91 ca, k_X4_init_94 ca, k_X4_init_95 ca, k_X4_init_98 ca, k_X4_init_99 ca, k_X4_init_102 ca, k_X4_init_105 ca, k_X4_init_106 ca, k_X4_init_108 ca, k_X4_init_111 ca, k_X4_init_112 ca, k_X4_init_113 ca, k_X4_init_115 ca, k_X4_init_118 ca, k_X4_init_119 ca, k_X4_init_120 ca, k_X4_init_122 ca, k_X4_init_125 ca, c0, d2, d2', v12]
      try clear hF hF0 F
      intro q3 hq3
      have hq3 : va_up (va_up (va_up G q2 (some (.inl (ca 0, 2, .inl (fun _ => 0))))) a (some (.inr (4, [.ref q1, .ref q2, .null, .null, .int 0, .int 0, .null, .null])))) q2 (some (.inl (ca 0, 2, .inl (upd (fun _ => 0) 1 50)))) q3 = none := hq3
      have V3 : Bk h (va_up (va_up (va_up G q2 (some (.inl (ca 0, 2, .inl (fun _ => 0))))) a (some (.inr (4, [.ref q1, .ref q2, .null, .null, .int 0, .int 0, .null, .null])))) q2 (some (.inl (ca 0, 2, .inl (upd (fun _ => 0) 1 50))))) (Qa (Qa (fun _ => a) 1 (fun _ => q1)) 2 (fun _ => q2)) 3 := (V2.up (i := 0) (by decide) (.inr (4, [.ref q1, .ref q2, .null, .null, .int 0, .int 0, .null, .null]))).up (i := 2) (by decide) _
      generalize hG3 : va_up (va_up (va_up G q2 (some (.inl (ca 0, 2, .inl (fun _ => 0))))) a (some (.inr (4, [.ref q1, .ref q2, .null, .null, .int 0, .int 0, .null, .null])))) q2 (some (.inl (ca 0, 2, .inl (upd (fun _ => 0) 1 50)))) = G3 at *
      have x0 : G3 a = some (.inr (4, [.ref q1, .ref q2, .null, .null, .int 0, .int 0, .null, .null])) := by rw [← hG3]; exact (va_up_ne _ _ d2).trans (va_up_self _ _ _)
      have x1 : G3 q1 = some (.inl (ca 0, 6, .inl f)) := by rw [← hG3]; exact (va_up_ne _ _ d12).trans ((va_up_ne _ _ d1').trans ((va_up_ne _ _ d12).trans c1))
      have x2 : G3 q2 = some (.inl (ca 0, 2, .inl (upd (fun _ => 0) 1 50))) := by rw [← hG3]; exact va_up_self _ _ _
      clear hG3
      have V4 := V3.new (by decide) hq3 (.inl (ca 6, 3, .inr (.inr (.inr (.inr (fun _ => none))))))
      have d3 : ¬ a = q3 := ne_none x0 hq3
      have d3' : ¬ q3 = a := fun z => d3 z.symm
      have d13 : ¬ q1 = q3 := ne_none x1 hq3
      have d23 : ¬ q2 = q3 := ne_none x2 hq3
      refine goN go (stp [63]) 160 _ _ _ _ _ _ (fun F hF hF0 => ?_)
      simp only [hF, hF0, ite_not, i_push, i_iload, i_lload, i_aload, i_istore, i_astore, i_lstore, i_iinc, i_bin, i_dv, i_un, i_lbin, i_lsh, i_i2l, i_l2i, i_lcmp, i_dup, i_dup2, i_pop, i_if, i_icmp, i_goto, swG, i_sw, i_getf, i_puti, i_putz, i_putr, i_ald, i_lald, i_aald, i_ast, i_last, i_aast, i_alen, i_new, i_newi, i_newl, i_newq, i_oinit, i_ret, i_zret, i_lret, i_vret, catS, tk, rpush, isO, i_m1, i_m2, i_acopy, i_callV, i_callS, KRet, lget, lput, lputL, lcl0, isL, lv0, List.map_cons, List.map_nil, List.length_cons, List.length_nil, List.cons_append, List.nil_append, Nat.reduceAdd, Nat.reduceSub, Nat.reduceLeDiff, List.replicate_succ, List.replicate_zero, List.getElem?_cons_succ, List.getElem?_cons_zero, List.set_cons_succ, List.set_cons_zero, true_and, and_true, if_true, if_false, ↓reduceIte, Nat.le_refl, Value.category, va_up_app, eq_self, stp, Nat.reduceBEq, Bool.or_false, Bool.false_or, Bool.true_or, Bool.or_true, or_true, true_or, bx_uu, implies_true, true_implies, not_true, not_false_eq_true, false_implies, and_self, Nat.reduceLT, Int32.reduceAdd, Int32.reduceSub, Int32.reduceMul, Int32.reduceLE, Int32.reduceLT, Int32.reduceToNatClampNeg, va_rf_some, Bool.false_eq_true, k_X4_init_0 ca, k_X4_init_1 ca, k_X4_init_4 ca, k_X4_init_5 ca, k_X4_init_7 ca, k_X4_init_9 ca, k_X4_init_12 ca, k_X4_init_13 ca, k_X4_init_14 ca, k_X4_init_15 ca, k_X4_init_17 ca, k_X4_init_20 ca, k_X4_init_21 ca, k_X4_init_24 ca, k_X4_init_25 ca, k_X4_init_26 ca, k_X4_init_27 ca, k_X4_init_28 ca, k_X4_init_29 ca, k_X4_init_32 ca, k_X4_init_35 ca, k_X4_init_36 ca, k_X4_init_37 ca, k_X4_init_39 ca, k_X4_init_42 ca, k_X4_init_43 ca, k_X4_init_46 ca, k_X4_init_47 ca, k_X4_init_49 ca, k_X4_init_50 ca, k_X4_init_51 ca, k_X4_init_52 ca, k_X4_init_55 ca, k_X4_init_58 ca, k_X4_init_59 ca, k_X4_init_60 ca, k_X4_init_63 ca, k_X4_init_66 ca, k_X4_init_67 ca, k_X4_init_68 ca, k_X4_init_69 ca, k_X4_init_70 ca, k_X4_init_73 ca, k_X4_init_74 ca, k_X4_init_77 ca, k_X4_init_78 ca, k_X4_init_81 ca, k_X4_init_82 ca, k_X4_init_85 ca, k_X4_init_86 ca, k_X4_init_87 ca, k_X4_init_90 ca, k_X4_init_91 ca, k_X4_init_94 ca, k_X4_init_95 ca, k_X4_init_98 ca, k_X4_init_99 ca, k_X4_init_102 ca, k_X4_init_105 ca, k_X4_init_106 ca, k_X4_init_108 ca, k_X4_init_111 ca, k_X4_init_112 ca, k_X4_init_113 ca, k_X4_init_115 ca, k_X4_init_118 ca, k_X4_init_119 ca, k_X4_init_120 ca, k_X4_init_122 ca, k_X4_init_125 ca, x0, d3]
      try clear hF hF0 F
      intro q4 hq4
      have hq4 : va_up (va_up G3 q3 (some (.inl (ca 6, 3, .inr (.inr (.inr (.inr (fun _ => none)))))))) a (some (.inr (4, [.ref q1, .ref q2, .ref q3, .null, .int 0, .int 0, .null, .null]))) q4 = none := hq4
      have V5 : Bk h (va_up (va_up G3 q3 (some (.inl (ca 6, 3, .inr (.inr (.inr (.inr (fun _ => none)))))))) a (some (.inr (4, [.ref q1, .ref q2, .ref q3, .null, .int 0, .int 0, .null, .null])))) (Qa (Qa (Qa (fun _ => a) 1 (fun _ => q1)) 2 (fun _ => q2)) 3 (fun _ => q3)) 4 := V4.up (i := 0) (by decide) _
      generalize hG4 : va_up (va_up G3 q3 (some (.inl (ca 6, 3, .inr (.inr (.inr (.inr (fun _ => none)))))))) a (some (.inr (4, [.ref q1, .ref q2, .ref q3, .null, .int 0, .int 0, .null, .null]))) = G4 at *
      have y0 : G4 a = some (.inr (4, [.ref q1, .ref q2, .ref q3, .null, .int 0, .int 0, .null, .null])) := by rw [← hG4]; exact va_up_self _ _ _
      have y1 : G4 q1 = some (.inl (ca 0, 6, .inl f)) := by rw [← hG4]; exact (va_up_ne _ _ d1').trans ((va_up_ne _ _ d13).trans x1)
      have y2 : G4 q2 = some (.inl (ca 0, 2, .inl (upd (fun _ => 0) 1 50))) := by rw [← hG4]; exact (va_up_ne _ _ d2').trans ((va_up_ne _ _ d23).trans x2)
      have y3 : G4 q3 = some (.inl (ca 6, 3, .inr (.inr (.inr (.inr (fun _ => none)))))) := by rw [← hG4]; exact (va_up_ne _ _ d3').trans (va_up_self _ _ _)
      clear hG4
      have V6 := V5.new (by decide) hq4 (.inl (ca 4, 3, .inr (.inr (.inr (.inr (fun _ => none))))))
      have d4 : ¬ a = q4 := ne_none y0 hq4
      have d4' : ¬ q4 = a := fun z => d4 z.symm
      have d14 : ¬ q1 = q4 := ne_none y1 hq4
      have d24 : ¬ q2 = q4 := ne_none y2 hq4
      have d34 : ¬ q3 = q4 := ne_none y3 hq4
      have V7 := V6.up (i := 0) (by decide) (.inr (4, [.ref q1, .ref q2, .ref q3, .ref q4, .int 0, .int 0, .null, .null]))
      have k0 := loops _ (Qa (Qa (Qa (Qa (fun _ => a) 1 (fun _ => q1)) 2 (fun _ => q2)) 3 (fun _ => q3)) 4 (fun _ => q4)) rfl ⟨V7, va_up_self _ _ _, ⟨f, (va_up_ne _ _ d1').trans ((va_up_ne _ _ d14).trans y1), hf⟩, ⟨_, (va_up_ne _ _ d2').trans ((va_up_ne _ _ d24).trans y2), rfl, rfl⟩, ⟨_, (va_up_ne _ _ d3').trans ((va_up_ne _ _ d34).trans y3), fun i hi => absurd hi (by omega)⟩, ⟨_, (va_up_ne _ _ d4').trans (va_up_self _ _ _), fun i hi => absurd hi (by omega)⟩, fun i hi => absurd hi (by omega)⟩
      refine goN go (stp [68]) 160 _ _ _ _ _ _ (fun F hF hF0 => ?_)
      simp only [hF, hF0, ite_not, i_push, i_iload, i_lload, i_aload, i_istore, i_astore, i_lstore, i_iinc, i_bin, i_dv, i_un, i_lbin, i_lsh, i_i2l, i_l2i, i_lcmp, i_dup, i_dup2, i_pop, i_if, i_icmp, i_goto, swG, i_sw, i_getf, i_puti, i_putz, i_putr, i_ald, i_lald, i_aald, i_ast, i_last, i_aast, i_alen, i_new, i_newi, i_newl, i_newq, i_oinit, i_ret, i_zret, i_lret, i_vret, catS, tk, rpush, isO, i_m1, i_m2, i_acopy, i_callV, i_callS, KRet, lget, lput, lputL, lcl0, isL, lv0, List.map_cons, List.map_nil, List.length_cons, List.length_nil, List.cons_append, List.nil_append, Nat.reduceAdd, Nat.reduceSub, Nat.reduceLeDiff, List.replicate_succ, List.replicate_zero, List.getElem?_cons_succ, List.getElem?_cons_zero, List.set_cons_succ, List.set_cons_zero, true_and, and_true, if_true, if_false, ↓reduceIte, Nat.le_refl, Value.category, va_up_app, eq_self, stp, Nat.reduceBEq, Bool.or_false, Bool.false_or, Bool.true_or, Bool.or_true, or_true, true_or, bx_uu, implies_true, true_implies, not_true, not_false_eq_true, false_implies, and_self, Nat.reduceLT, Int32.reduceAdd, Int32.reduceSub, Int32.reduceMul, Int32.reduceLE, Int32.reduceLT, Int32.reduceToNatClampNeg, va_rf_some, Bool.false_eq_true, k_X4_init_0 ca, k_X4_init_1 ca, k_X4_init_4 ca, k_X4_init_5 ca, k_X4_init_7 ca, k_X4_init_9 ca, k_X4_init_12 ca, k_X4_init_13 ca, k_X4_init_14 ca, k_X4_init_15 ca, k_X4_init_17 ca, k_X4_init_20 ca, k_X4_init_21 ca, k_X4_init_24 ca, k_X4_init_25 ca, k_X4_init_26 ca, k_X4_init_27 ca, k_X4_init_28 ca, k_X4_init_29 ca, k_X4_init_32 ca, k_X4_init_35 ca, k_X4_init_36 ca, k_X4_init_37 ca, k_X4_init_39 ca, k_X4_init_42 ca, k_X4_init_43 ca, k_X4_init_46 ca, k_X4_init_47 ca, k_X4_init_49 ca, k_X4_init_50 ca, k_X4_init_51 ca, k_X4_init_52 ca, k_X4_init_55 ca, k_X4_init_58 ca, k_X4_init_59 ca, k_X4_init_60 ca, k_X4_init_63 ca, k_X4_init_66 ca, k_X4_init_67 ca, k_X4_init_68 ca, k_X4_init_69 ca, k_X4_init_70 ca, k_X4_init_73 ca, k_X4_init_74 ca, k_X4_init_77 ca, k_X4_init_78 ca, k_X4_init_81 ca, k_X4_init_82 ca, k_X4_init_85 ca, k_X4_init_86 ca, k_X4_init_87 ca, k_X4_init_90 ca, k_X4_init_91 ca, k_X4_init_94 ca, k_X4_init_95 ca, k_X4_init_98 ca, k_X4_init_99 ca, k_X4_init_102 ca, k_X4_init_105 ca, k_X4_init_106 ca, k_X4_init_108 ca, k_X4_init_111 ca, k_X4_init_112 ca, k_X4_init_113 ca, k_X4_init_115 ca, k_X4_init_118 ca, k_X4_init_119 ca, k_X4_init_120 ca, k_X4_init_122 ca, k_X4_init_125 ca, y0, d4]
      try clear hF hF0 F
      exact k0
    | succ r ih =>
      intro j f hj hf
      have g1 : ¬ 6 ≤ nI j := nI_ge (b := 6) (by omega) (by decide)
      have vj : vp_in (nI j) 6 := vp_in_nI (by omega) (by decide)
      have xj : (nI j).toNatClampNeg = j := nI_clamp (by omega)
      have k0 := ih (j + 1) (upd f j (5 * nI j)) (by omega) (fun i hi => by
        rw [upd_app]
        by_cases z : i = j
        · rw [if_pos z, z]
        · rw [if_neg z]; exact hf i (by omega))
      refine goN go (stp [14]) 160 _ _ _ _ _ _ (fun F hF hF0 => ?_)
      simp only [hF, hF0, ite_not, i_push, i_iload, i_lload, i_aload, i_istore, i_astore, i_lstore, i_iinc, i_bin, i_dv, i_un, i_lbin, i_lsh, i_i2l, i_l2i, i_lcmp, i_dup, i_dup2, i_pop, i_if, i_icmp, i_goto, swG, i_sw, i_getf, i_puti, i_putz, i_putr, i_ald, i_lald, i_aald, i_ast, i_last, i_aast, i_alen, i_new, i_newi, i_newl, i_newq, i_oinit, i_ret, i_zret, i_lret, i_vret, catS, tk, rpush, isO, i_m1, i_m2, i_acopy, i_callV, i_callS, KRet, lget, lput, lputL, lcl0, isL, lv0, List.map_cons, List.map_nil, List.length_cons, List.length_nil, List.cons_append, List.nil_append, Nat.reduceAdd, Nat.reduceSub, Nat.reduceLeDiff, List.replicate_succ, List.replicate_zero, List.getElem?_cons_succ, List.getElem?_cons_zero, List.set_cons_succ, List.set_cons_zero, true_and, and_true, if_true, if_false, ↓reduceIte, Nat.le_refl, Value.category, va_up_app, eq_self, stp, Nat.reduceBEq, Bool.or_false, Bool.false_or, Bool.true_or, Bool.or_true, or_true, true_or, bx_uu, implies_true, true_implies, not_true, not_false_eq_true, false_implies, and_self, Nat.reduceLT, Int32.reduceAdd, Int32.reduceSub, Int32.reduceMul, Int32.reduceLE, Int32.reduceLT, Int32.reduceToNatClampNeg, va_rf_some, Bool.false_eq_true, k_X4_init_0 ca, k_X4_init_1 ca, k_X4_init_4 ca, k_X4_init_5 ca, k_X4_init_7 ca, k_X4_init_9 ca, k_X4_init_12 ca, k_X4_init_13 ca, k_X4_init_14 ca, k_X4_init_15 ca, k_X4_init_17 ca, k_X4_init_20 ca, k_X4_init_21 ca, k_X4_init_24 ca, k_X4_init_25 ca, k_X4_init_26 ca, k_X4_init_27 ca, k_X4_init_28 ca, k_X4_init_29 ca, k_X4_init_32 ca, k_X4_init_35 ca, k_X4_init_36 ca, k_X4_init_37 ca, k_X4_init_39 ca, k_X4_init_42 ca, k_X4_init_43 ca, k_X4_init_46 ca, k_X4_init_47 ca, k_X4_init_49 ca, k_X4_init_50 ca, k_X4_init_51 ca, k_X4_init_52 ca, k_X4_init_55 ca, k_X4_init_58 ca, k_X4_init_59 ca, k_X4_init_60 ca, k_X4_init_63 ca, k_X4_init_66 ca, k_X4_init_67 ca, k_X4_init_68 ca, k_X4_init_69 ca, k_X4_init_70 ca, k_X4_init_73 ca, k_X4_init_74 ca, k_X4_init_77 ca, k_X4_init_78 ca, k_X4_init_81 ca, k_X4_init_82 ca, k_X4_init_85 ca, k_X4_init_86 ca, k_X4_init_87 ca, k_X4_init_90 ca, k_X4_init_91 ca, k_X4_init_94 ca, k_X4_init_95 ca, k_X4_init_98 ca, k_X4_init_99 ca, k_X4_init_102 ca, k_X4_init_105 ca, k_X4_init_106 ca, k_X4_init_108 ca, k_X4_init_111 ca, k_X4_init_112 ca, k_X4_init_113 ca, k_X4_init_115 ca, k_X4_init_118 ca, k_X4_init_119 ca, k_X4_init_120 ca, k_X4_init_122 ca, k_X4_init_125 ca, g1, a1, d1, vj, xj, a_1]
      try clear hF hF0 F
      exact k0
  have k0 := key 6 0 (fun _ => 0) (by omega) (fun i hi => absurd hi (by omega))
  rw [nI_0, up_id b1] at k0
  exact k0

