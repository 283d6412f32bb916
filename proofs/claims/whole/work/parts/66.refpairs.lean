/-! SnapStacksModel: laysPair, laysPairs -/
def anyB (P : Nat → Bool) : Nat → Bool
  | 0 => false
  | n + 1 => anyB P n || P n
theorem anyB_iff {P : Nat → Bool} : ∀ {n : Nat}, anyB P n = true ↔ ∃ k, k < n ∧ P k = true
  | 0 => ⟨fun h => absurd (show false = true from h) (by decide), fun ⟨k, h, _⟩ => absurd h (by omega)⟩
  | n + 1 => by
    unfold anyB
    rw [Bool.or_eq_true, anyB_iff]
    constructor
    · rintro (⟨k, h, e⟩ | h)
      · exact ⟨k, by omega, e⟩
      · exact ⟨n, by omega, h⟩
    · rintro ⟨k, h, e⟩
      by_cases q : k = n
      · rw [q] at e; exact Or.inr e
      · exact Or.inl ⟨k, by omega, e⟩
def NumOk (s : Nat → Int32) : Prop := ∀ j, j < 6 → ∃ N, N ≤ 30 ∧ s j = nI N
def wayIx (s : Nat → Int32) (k : Nat) : Int32 := s (k / 6) - s (k % 6) + 30
def wayB (s : Nat → Int32) (i : Nat) : Bool := anyB (fun k => decide (wayIx s k = nI i)) 36
def pIx (o w : Nat) : Nat := 1081 * (o / 61 + w / 61) + (o / 61 + 1) * (o % 61) + (w / 61 + 1) * (w % 61) + (540 - 30 * (o / 61 + w / 61 + 2))
def pairQ (s : Nat → Int32) (o j w : Nat) : Bool := wayB s (w % 61) && decide (pIx o w = j)
def pairP (s : Nat → Int32) (j o : Nat) : Bool := wayB s (o % 61) && anyB (pairQ s o j) 549
def pairB (s : Nat → Int32) (j : Nat) : Bool := anyB (pairP s j) 549
theorem pIx_lt {o w : Nat} (ho : o < 549) (hw : w < 549) : pIx o w < 18377 := by
  have a1 : o / 61 ≤ 8 := by omega
  have a2 : w / 61 ≤ 8 := by omega
  have a3 : o % 61 ≤ 60 := by omega
  have a4 : w % 61 ≤ 60 := by omega
  have b1 : (o / 61 + 1) * (o % 61) ≤ (o / 61 + 1) * 60 := Nat.mul_le_mul_left _ a3
  have b2 : (w / 61 + 1) * (w % 61) ≤ (w / 61 + 1) * 60 := Nat.mul_le_mul_left _ a4
  unfold pIx
  omega
theorem ofI_sub (x y : Int) : Int32.ofInt x - Int32.ofInt y = Int32.ofInt (x - y) := (Int32.ofInt_sub x y).symm
theorem nI_ofI (n : Nat) : nI n = Int32.ofInt (n : Int) := rfl
theorem pIx_eq {o w : Nat} (ho : o < 549) (hw : w < 549) : 1081 * (nI (o / 61 + 1) + nI (w / 61 + 1) - 2) + nI (o / 61 + 1) * (nI (o % 61) - 30) + nI (w / 61 + 1) * (nI (w % 61) - 30) + 540 = nI (pIx o w) := by
  have a1 : o / 61 ≤ 8 := by omega
  have a2 : w / 61 ≤ 8 := by omega
  rw [show (1081 : Int32) = Int32.ofInt 1081 from rfl, show (2 : Int32) = Int32.ofInt 2 from rfl, show (30 : Int32) = Int32.ofInt 30 from rfl, show (540 : Int32) = Int32.ofInt 540 from rfl, nI_ofI, nI_ofI, nI_ofI, nI_ofI, nI_ofI]
  rw [← Int32.ofInt_add, ← Int32.ofInt_sub, ← Int32.ofInt_sub, ← Int32.ofInt_sub, ← Int32.ofInt_mul, ← Int32.ofInt_mul, ← Int32.ofInt_mul, ← Int32.ofInt_add, ← Int32.ofInt_add, ← Int32.ofInt_add]
  refine congrArg Int32.ofInt ?_
  unfold pIx
  generalize o / 61 = x at *
  generalize w / 61 = y at *
  generalize o % 61 = u at *
  generalize w % 61 = v at *
  have e : ((540 - 30 * (x + y + 2) : Nat) : Int) = 540 - 30 * ((x : Int) + y + 2) := by omega
  simp only [Int.natCast_add, Int.natCast_mul, e, Int.mul_sub, Int.add_mul, Int.mul_add, Int.sub_mul, Int.one_mul, Int.cast_ofNat_Int]
  omega
theorem nar0 : vp_nar .boolean 0 = 0 := rfl
theorem nar1 : vp_nar .boolean 1 = 1 := rfl
def sp_X8_laysPair (ca : Nat → ClassId) : SPEC := fun av h post => ∃ m a ip o w, o < 549 ∧ w < 549 ∧ av = [.ref m, .int (nI (o / 61 + 1)), .int (nI (o % 61) - 30), .int (nI (w / 61 + 1)), .int (nI (w % 61) - 30)] ∧ MC h m a ∧ h (a 8) = some (.inl (ca 2, 18377, .inl ip)) ∧ post none (va_up h (a 8) (some (.inl (ca 2, 18377, .inl (upd ip (pIx o w) 1)))))
def k_X8_laysPair (ca : Nat → ClassId) : Nat → IT := fun pc => lk pc [(0, i_aload 0 1),
  (1, i_getf 8 10 4),
  (4, i_push (.int 1081) 7),
  (7, i_iload 1 8),
  (8, i_iload 3 9),
  (9, i_bin (fun x y => x + y) 10),
  (10, i_push (.int 2) 11),
  (11, i_bin (fun x y => x - y) 12),
  (12, i_bin (fun x y => x * y) 13),
  (13, i_iload 1 14),
  (14, i_iload 2 15),
  (15, i_bin (fun x y => x * y) 16),
  (16, i_bin (fun x y => x + y) 17),
  (17, i_iload 3 18),
  (18, i_iload 4 20),
  (20, i_bin (fun x y => x * y) 21),
  (21, i_bin (fun x y => x + y) 22),
  (22, i_push (.int 540) 25),
  (25, i_bin (fun x y => x + y) 26),
  (26, i_push (.int 1) 27),
  (27, i_ast (vp_nar .boolean) (ca 2) 28),
  (28, i_vret)]
set_option maxRecDepth 20000 in
theorem t_X8_laysPair : Tb k_X8_laysPair yX8_laysPair cX8_laysPair 5 none 0 0 0 := by
  intro l D ca A p e s m args below meth c post X
  unfold k_X8_laysPair
  refine snd_cons (snd_aload_n X dX8_laysPair_0 rfl) ?_
  refine snd_cons (snd_getf X Fk8 10 (by decide) w_657 dX8_laysPair_1) ?_
  refine snd_cons (snd_sipush X dX8_laysPair_4 (by decide)) ?_
  refine snd_cons (snd_iload_n X dX8_laysPair_7 rfl) ?_
  refine snd_cons (snd_iload_n X dX8_laysPair_8 rfl) ?_
  refine snd_cons (snd_iadd X dX8_laysPair_9) ?_
  refine snd_cons (snd_iconst X dX8_laysPair_10 (by decide)) ?_
  refine snd_cons (snd_isub X dX8_laysPair_11) ?_
  refine snd_cons (snd_imul X dX8_laysPair_12) ?_
  refine snd_cons (snd_iload_n X dX8_laysPair_13 rfl) ?_
  refine snd_cons (snd_iload_n X dX8_laysPair_14 rfl) ?_
  refine snd_cons (snd_imul X dX8_laysPair_15) ?_
  refine snd_cons (snd_iadd X dX8_laysPair_16) ?_
  refine snd_cons (snd_iload_n X dX8_laysPair_17 rfl) ?_
  refine snd_cons (snd_iload X dX8_laysPair_18) ?_
  refine snd_cons (snd_imul X dX8_laysPair_20) ?_
  refine snd_cons (snd_iadd X dX8_laysPair_21) ?_
  refine snd_cons (snd_sipush X dX8_laysPair_22 (by decide)) ?_
  refine snd_cons (snd_iadd X dX8_laysPair_25) ?_
  refine snd_cons (snd_iconst X dX8_laysPair_26 (by decide)) ?_
  refine snd_cons (snd_bastore X dX8_laysPair_27) ?_
  refine snd_cons (snd_vret X dX8_laysPair_28) ?_
  exact snd_nil
theorem k_X8_laysPair_0 (ca : Nat → ClassId) : k_X8_laysPair ca 0 = i_aload 0 1 := rfl
theorem k_X8_laysPair_1 (ca : Nat → ClassId) : k_X8_laysPair ca 1 = i_getf 8 10 4 := rfl
theorem k_X8_laysPair_4 (ca : Nat → ClassId) : k_X8_laysPair ca 4 = i_push (.int 1081) 7 := rfl
theorem k_X8_laysPair_7 (ca : Nat → ClassId) : k_X8_laysPair ca 7 = i_iload 1 8 := rfl
theorem k_X8_laysPair_8 (ca : Nat → ClassId) : k_X8_laysPair ca 8 = i_iload 3 9 := rfl
theorem k_X8_laysPair_9 (ca : Nat → ClassId) : k_X8_laysPair ca 9 = i_bin (fun x y => x + y) 10 := rfl
theorem k_X8_laysPair_10 (ca : Nat → ClassId) : k_X8_laysPair ca 10 = i_push (.int 2) 11 := rfl
theorem k_X8_laysPair_11 (ca : Nat → ClassId) : k_X8_laysPair ca 11 = i_bin (fun x y => x - y) 12 := rfl
theorem k_X8_laysPair_12 (ca : Nat → ClassId) : k_X8_laysPair ca 12 = i_bin (fun x y => x * y) 13 := rfl
theorem k_X8_laysPair_13 (ca : Nat → ClassId) : k_X8_laysPair ca 13 = i_iload 1 14 := rfl
theorem k_X8_laysPair_14 (ca : Nat → ClassId) : k_X8_laysPair ca 14 = i_iload 2 15 := rfl
theorem k_X8_laysPair_15 (ca : Nat → ClassId) : k_X8_laysPair ca 15 = i_bin (fun x y => x * y) 16 := rfl
theorem k_X8_laysPair_16 (ca : Nat → ClassId) : k_X8_laysPair ca 16 = i_bin (fun x y => x + y) 17 := rfl
theorem k_X8_laysPair_17 (ca : Nat → ClassId) : k_X8_laysPair ca 17 = i_iload 3 18 := rfl
theorem k_X8_laysPair_18 (ca : Nat → ClassId) : k_X8_laysPair ca 18 = i_iload 4 20 := rfl
theorem k_X8_laysPair_20 (ca : Nat → ClassId) : k_X8_laysPair ca 20 = i_bin (fun x y => x * y) 21 := rfl
theorem k_X8_laysPair_21 (ca : Nat → ClassId) : k_X8_laysPair ca 21 = i_bin (fun x y => x + y) 22 := rfl
theorem k_X8_laysPair_22 (ca : Nat → ClassId) : k_X8_laysPair ca 22 = i_push (.int 540) 25 := rfl
theorem k_X8_laysPair_25 (ca : Nat → ClassId) : k_X8_laysPair ca 25 = i_bin (fun x y => x + y) 26 := rfl
theorem k_X8_laysPair_26 (ca : Nat → ClassId) : k_X8_laysPair ca 26 = i_push (.int 1) 27 := rfl
theorem k_X8_laysPair_27 (ca : Nat → ClassId) : k_X8_laysPair ca 27 = i_ast (vp_nar .boolean) (ca 2) 28 := rfl
theorem k_X8_laysPair_28 (ca : Nat → ClassId) : k_X8_laysPair ca 28 = i_vret := rfl
set_option maxHeartbeats 4000000 in
set_option maxRecDepth 20000 in
theorem ok_X8_laysPair (l : Launch) (D : va_G) (ca : Nat → ClassId) : OkAll l D ca yX8_laysPair cX8_laysPair 5 none 0 0 0 (sp_X8_laysPair ca) := by
  intro av h post hs
  obtain ⟨m, a, ip, o, w, ho, hw, rfl, ⟨st, len, fm, at', re, hm⟩, h8, hs⟩ := hs
  unfold eMod at hm
  have e := pIx_eq ho hw
  have z0 : vp_in (nI (pIx o w)) 18377 := vp_in_nI (pIx_lt ho hw) (by decide)
  have z1 : (nI (pIx o w)).toNatClampNeg = pIx o w := nI_clamp (by have := pIx_lt ho hw; omega)
  generalize nI (o % 61) - 30 = x at *
  generalize nI (w % 61) - 30 = y at *
  generalize nI (o / 61 + 1) = u at *
  generalize nI (w / 61 + 1) = v at *
  refine okM_of t_X8_laysPair (by decide +kernel) (c1_ref (c1_int (c1_int (c1_int (c1_int c1_nil))))) (Nat.le_of_ble_eq_true rfl) ?_
  intro K go
  refine goN go (stp []) 160 _ _ _ _ _ _ (fun F hF hF0 => ?_)
  simp only [hF, hF0, ite_not, i_push, i_iload, i_lload, i_aload, i_istore, i_astore, i_lstore, i_iinc, i_bin, i_dv, i_un, i_lbin, i_lsh, i_i2l, i_l2i, i_lcmp, i_dup, i_dup2, i_pop, i_if, i_icmp, i_goto, swG, i_sw, i_getf, i_puti, i_putz, i_putr, i_ald, i_lald, i_aald, i_ast, i_last, i_aast, i_alen, i_new, i_newi, i_newl, i_newq, i_oinit, i_ret, i_zret, i_lret, i_vret, catS, tk, rpush, isO, i_m1, i_m2, i_acopy, i_callV, i_callS, KRet, lget, lput, lputL, lcl0, isL, lv0, List.map_cons, List.map_nil, List.length_cons, List.length_nil, List.cons_append, List.nil_append, Nat.reduceAdd, Nat.reduceSub, Nat.reduceLeDiff, List.replicate_succ, List.replicate_zero, List.getElem?_cons_succ, List.getElem?_cons_zero, List.set_cons_succ, List.set_cons_zero, true_and, and_true, if_true, if_false, ↓reduceIte, Nat.le_refl, Value.category, va_up_app, eq_self, stp, Nat.reduceBEq, Bool.or_false, Bool.false_or, Bool.true_or, Bool.or_true, or_true, true_or, bx_uu, implies_true, true_implies, not_true, not_false_eq_true, false_implies, and_self, Nat.reduceLT, Int32.reduceAdd, Int32.reduceSub, Int32.reduceMul, Int32.reduceLE, Int32.reduceLT, Int32.reduceToNatClampNeg, va_rf_some, Bool.false_eq_true, k_X8_laysPair_0 ca, k_X8_laysPair_1 ca, k_X8_laysPair_4 ca, k_X8_laysPair_7 ca, k_X8_laysPair_8 ca, k_X8_laysPair_9 ca, k_X8_laysPair_10 ca, k_X8_laysPair_11 ca, k_X8_laysPair_12 ca, k_X8_laysPair_13 ca, k_X8_laysPair_14 ca, k_X8_laysPair_15 ca, k_X8_laysPair_16 ca, k_X8_laysPair_17 ca, k_X8_laysPair_18 ca, k_X8_laysPair_20 ca, k_X8_laysPair_21 ca, k_X8_laysPair_22 ca, k_X8_laysPair_25 ca, k_X8_laysPair_26 ca, k_X8_laysPair_27 ca, k_X8_laysPair_28 ca, hm, h8, e, z0, z1, nar1]
  try clear hF hF0 F
  exact hs
theorem wayIx_in {s : Nat → Int32} (hN : NumOk s) {k : Nat} (hk : k < 36) : ∃ i, i < 61 ∧ wayIx s k = nI i := by
  obtain ⟨N, h1, e1⟩ := hN (k / 6) (by omega)
  obtain ⟨M, h2, e2⟩ := hN (k % 6) (by omega)
  refine ⟨N + 30 - M, by omega, ?_⟩
  unfold wayIx
  rw [e1, e2, show (30 : Int32) = nI 30 from rfl, ← sub_nI (by omega : M ≤ N + 30), ← nI_add]
  rw [Int32.sub_eq_add_neg, Int32.sub_eq_add_neg, Int32.add_assoc, Int32.add_comm (-nI M), ← Int32.add_assoc]
def WayOk (s iw : Nat → Int32) : Prop := ∀ i, i < 61 → iw i = b2i (wayB s i)
def PairOk (s ip : Nat → Int32) : Prop := ∀ j, j < 18377 → ip j = b2i (pairB s j)
theorem b2i_or {x y : Bool} : b2i (x || y) = if y = true then 1 else b2i x := by cases x <;> cases y <;> rfl
section
variable {ca : Nat → ClassId} {h : PH} {m : Nat} {a : Nat → Nat}
theorem MC.up (hm : MC h m a) {x : Nat} (hx : ¬ m = x) (e : Option va_E) : MC (va_up h x e) m a := by
  obtain ⟨st, len, fm, at', re, hm⟩ := hm
  exact ⟨st, len, fm, at', re, (va_up_ne _ _ hx).trans hm⟩
end
def sp_X8_laysPairs (ca : Nat → ClassId) : SPEC := fun av h post => ∃ m a s iw ip, av = [.ref m] ∧ RI m a ∧ MC h m a ∧ h (a 0) = some (.inl (ca 0, 127, .inl s)) ∧ h (a 7) = some (.inl (ca 2, 61, .inl iw)) ∧ h (a 8) = some (.inl (ca 2, 18377, .inl ip)) ∧ NumOk s ∧
  ∀ iw' ip', WayOk s iw' → PairOk s ip' → post none (va_up (va_up h (a 7) (some (.inl (ca 2, 61, .inl iw')))) (a 8) (some (.inl (ca 2, 18377, .inl ip'))))
def k_X8_laysPairs (ca : Nat → ClassId) : Nat → IT := fun pc => if pc < 61 then lk pc [(0, i_push (.int 0) 1),
  (1, i_istore 1 2),
  (2, i_iload 1 3),
  (3, i_push (.int 61) 5),
  (5, i_icmp (fun x y => y ≤ x) 21 8),
  (8, i_aload 0 9),
  (9, i_getf 8 9 12),
  (12, i_iload 1 13),
  (13, i_push (.int 0) 14),
  (14, i_ast (vp_nar .boolean) (ca 2) 15),
  (15, i_iinc 1 1 18),
  (18, i_goto 2),
  (21, i_push (.int 0) 22),
  (22, i_istore 1 23),
  (23, i_iload 1 24),
  (24, i_push (.int 36) 26),
  (26, i_icmp (fun x y => y ≤ x) 67 29),
  (29, i_aload 0 30),
  (30, i_getf 8 9 33),
  (33, i_aload 0 34),
  (34, i_getf 8 0 37),
  (37, i_push (.int 0) 38),
  (38, i_iload 1 39),
  (39, i_push (.int 6) 41),
  (41, i_dv (fun x y => x / y) 42),
  (42, i_bin (fun x y => x + y) 43),
  (43, i_ald (ca 0) 44),
  (44, i_aload 0 45),
  (45, i_getf 8 0 48),
  (48, i_push (.int 0) 49),
  (49, i_iload 1 50),
  (50, i_push (.int 6) 52),
  (52, i_dv (fun x y => x - x / y * y) 53),
  (53, i_bin (fun x y => x + y) 54),
  (54, i_ald (ca 0) 55),
  (55, i_bin (fun x y => x - y) 56),
  (56, i_push (.int 30) 58),
  (58, i_bin (fun x y => x + y) 59),
  (59, i_push (.int 1) 60),
  (60, i_ast (vp_nar .boolean) (ca 2) 61)] else
  if pc < 133 then lk pc [(61, i_iinc 1 1 64),
  (64, i_goto 23),
  (67, i_push (.int 0) 68),
  (68, i_istore 1 69),
  (69, i_iload 1 70),
  (70, i_push (.int 18377) 73),
  (73, i_icmp (fun x y => y ≤ x) 89 76),
  (76, i_aload 0 77),
  (77, i_getf 8 10 80),
  (80, i_iload 1 81),
  (81, i_push (.int 0) 82),
  (82, i_ast (vp_nar .boolean) (ca 2) 83),
  (83, i_iinc 1 1 86),
  (86, i_goto 69),
  (89, i_push (.int 0) 90),
  (90, i_istore 1 91),
  (91, i_iload 1 92),
  (92, i_push (.int 549) 95),
  (95, i_icmp (fun x y => y ≤ x) 173 98),
  (98, i_push (.int 0) 99),
  (99, i_istore 2 100),
  (100, i_iload 2 101),
  (101, i_push (.int 549) 104),
  (104, i_icmp (fun x y => y ≤ x) 167 107),
  (107, i_aload 0 108),
  (108, i_getf 8 9 111),
  (111, i_iload 1 112),
  (112, i_push (.int 61) 114),
  (114, i_dv (fun x y => x - x / y * y) 115),
  (115, i_ald (ca 2) 116),
  (116, i_if (fun x => x = 0) 167 119),
  (119, i_aload 0 120),
  (120, i_getf 8 9 123),
  (123, i_iload 2 124),
  (124, i_push (.int 61) 126),
  (126, i_dv (fun x y => x - x / y * y) 127),
  (127, i_ald (ca 2) 128),
  (128, i_if (fun x => x = 0) 161 131),
  (131, i_aload 0 132),
  (132, i_iload 1 133)] else
  lk pc [(133, i_push (.int 61) 135),
  (135, i_dv (fun x y => x / y) 136),
  (136, i_push (.int 1) 137),
  (137, i_bin (fun x y => x + y) 138),
  (138, i_iload 1 139),
  (139, i_push (.int 61) 141),
  (141, i_dv (fun x y => x - x / y * y) 142),
  (142, i_push (.int 30) 144),
  (144, i_bin (fun x y => x - y) 145),
  (145, i_iload 2 146),
  (146, i_push (.int 61) 148),
  (148, i_dv (fun x y => x / y) 149),
  (149, i_push (.int 1) 150),
  (150, i_bin (fun x y => x + y) 151),
  (151, i_iload 2 152),
  (152, i_push (.int 61) 154),
  (154, i_dv (fun x y => x - x / y * y) 155),
  (155, i_push (.int 30) 157),
  (157, i_bin (fun x y => x - y) 158),
  (158, i_callV 8 4 0 0 0 0 (sp_X8_laysPair ca) 161),
  (161, i_iinc 2 1 164),
  (164, i_goto 100),
  (167, i_iinc 1 1 170),
  (170, i_goto 91),
  (173, i_vret)]
set_option maxRecDepth 20000 in
theorem t_X8_laysPairs : Tb k_X8_laysPairs yX8_laysPairs cX8_laysPairs 3 none 1 0 0 := by
  intro l D ca A p e s m args below meth c post X
  unfold k_X8_laysPairs
  refine snd_split (61) ?_ ?_
  · refine snd_cons (snd_iconst X dX8_laysPairs_0 (by decide)) ?_
    refine snd_cons (snd_istore_n X dX8_laysPairs_1 rfl (by decide)) ?_
    refine snd_cons (snd_iload_n X dX8_laysPairs_2 rfl) ?_
    refine snd_cons (snd_bipush X dX8_laysPairs_3 (by decide)) ?_
    refine snd_cons (snd_icmp_ge X dX8_laysPairs_5 (by decide)) ?_
    refine snd_cons (snd_aload_n X dX8_laysPairs_8 rfl) ?_
    refine snd_cons (snd_getf X Fk8 9 (by decide) w_656 dX8_laysPairs_9) ?_
    refine snd_cons (snd_iload_n X dX8_laysPairs_12 rfl) ?_
    refine snd_cons (snd_iconst X dX8_laysPairs_13 (by decide)) ?_
    refine snd_cons (snd_bastore X dX8_laysPairs_14) ?_
    refine snd_cons (snd_iinc X dX8_laysPairs_15 (by decide) (by decide)) ?_
    refine snd_cons (snd_goto X dX8_laysPairs_18 (by decide)) ?_
    refine snd_cons (snd_iconst X dX8_laysPairs_21 (by decide)) ?_
    refine snd_cons (snd_istore_n X dX8_laysPairs_22 rfl (by decide)) ?_
    refine snd_cons (snd_iload_n X dX8_laysPairs_23 rfl) ?_
    refine snd_cons (snd_bipush X dX8_laysPairs_24 (by decide)) ?_
    refine snd_cons (snd_icmp_ge X dX8_laysPairs_26 (by decide)) ?_
    refine snd_cons (snd_aload_n X dX8_laysPairs_29 rfl) ?_
    refine snd_cons (snd_getf X Fk8 9 (by decide) w_656 dX8_laysPairs_30) ?_
    refine snd_cons (snd_aload_n X dX8_laysPairs_33 rfl) ?_
    refine snd_cons (snd_getf X Fk8 0 (by decide) w_647 dX8_laysPairs_34) ?_
    refine snd_cons (snd_iconst X dX8_laysPairs_37 (by decide)) ?_
    refine snd_cons (snd_iload_n X dX8_laysPairs_38 rfl) ?_
    refine snd_cons (snd_bipush X dX8_laysPairs_39 (by decide)) ?_
    refine snd_cons (snd_idiv X dX8_laysPairs_41) ?_
    refine snd_cons (snd_iadd X dX8_laysPairs_42) ?_
    refine snd_cons (snd_iaload X dX8_laysPairs_43) ?_
    refine snd_cons (snd_aload_n X dX8_laysPairs_44 rfl) ?_
    refine snd_cons (snd_getf X Fk8 0 (by decide) w_647 dX8_laysPairs_45) ?_
    refine snd_cons (snd_iconst X dX8_laysPairs_48 (by decide)) ?_
    refine snd_cons (snd_iload_n X dX8_laysPairs_49 rfl) ?_
    refine snd_cons (snd_bipush X dX8_laysPairs_50 (by decide)) ?_
    refine snd_cons (snd_irem X dX8_laysPairs_52) ?_
    refine snd_cons (snd_iadd X dX8_laysPairs_53) ?_
    refine snd_cons (snd_iaload X dX8_laysPairs_54) ?_
    refine snd_cons (snd_isub X dX8_laysPairs_55) ?_
    refine snd_cons (snd_bipush X dX8_laysPairs_56 (by decide)) ?_
    refine snd_cons (snd_iadd X dX8_laysPairs_58) ?_
    refine snd_cons (snd_iconst X dX8_laysPairs_59 (by decide)) ?_
    refine snd_cons (snd_bastore X dX8_laysPairs_60) ?_
    exact snd_nil
  refine snd_split (133) ?_ ?_
  · refine snd_cons (snd_iinc X dX8_laysPairs_61 (by decide) (by decide)) ?_
    refine snd_cons (snd_goto X dX8_laysPairs_64 (by decide)) ?_
    refine snd_cons (snd_iconst X dX8_laysPairs_67 (by decide)) ?_
    refine snd_cons (snd_istore_n X dX8_laysPairs_68 rfl (by decide)) ?_
    refine snd_cons (snd_iload_n X dX8_laysPairs_69 rfl) ?_
    refine snd_cons (snd_sipush X dX8_laysPairs_70 (by decide)) ?_
    refine snd_cons (snd_icmp_ge X dX8_laysPairs_73 (by decide)) ?_
    refine snd_cons (snd_aload_n X dX8_laysPairs_76 rfl) ?_
    refine snd_cons (snd_getf X Fk8 10 (by decide) w_657 dX8_laysPairs_77) ?_
    refine snd_cons (snd_iload_n X dX8_laysPairs_80 rfl) ?_
    refine snd_cons (snd_iconst X dX8_laysPairs_81 (by decide)) ?_
    refine snd_cons (snd_bastore X dX8_laysPairs_82) ?_
    refine snd_cons (snd_iinc X dX8_laysPairs_83 (by decide) (by decide)) ?_
    refine snd_cons (snd_goto X dX8_laysPairs_86 (by decide)) ?_
    refine snd_cons (snd_iconst X dX8_laysPairs_89 (by decide)) ?_
    refine snd_cons (snd_istore_n X dX8_laysPairs_90 rfl (by decide)) ?_
    refine snd_cons (snd_iload_n X dX8_laysPairs_91 rfl) ?_
    refine snd_cons (snd_sipush X dX8_laysPairs_92 (by decide)) ?_
    refine snd_cons (snd_icmp_ge X dX8_laysPairs_95 (by decide)) ?_
    refine snd_cons (snd_iconst X dX8_laysPairs_98 (by decide)) ?_
    refine snd_cons (snd_istore_n X dX8_laysPairs_99 rfl (by decide)) ?_
    refine snd_cons (snd_iload_n X dX8_laysPairs_100 rfl) ?_
    refine snd_cons (snd_sipush X dX8_laysPairs_101 (by decide)) ?_
    refine snd_cons (snd_icmp_ge X dX8_laysPairs_104 (by decide)) ?_
    refine snd_cons (snd_aload_n X dX8_laysPairs_107 rfl) ?_
    refine snd_cons (snd_getf X Fk8 9 (by decide) w_656 dX8_laysPairs_108) ?_
    refine snd_cons (snd_iload_n X dX8_laysPairs_111 rfl) ?_
    refine snd_cons (snd_bipush X dX8_laysPairs_112 (by decide)) ?_
    refine snd_cons (snd_irem X dX8_laysPairs_114) ?_
    refine snd_cons (snd_baload X dX8_laysPairs_115) ?_
    refine snd_cons (snd_if_eq X dX8_laysPairs_116 (by decide)) ?_
    refine snd_cons (snd_aload_n X dX8_laysPairs_119 rfl) ?_
    refine snd_cons (snd_getf X Fk8 9 (by decide) w_656 dX8_laysPairs_120) ?_
    refine snd_cons (snd_iload_n X dX8_laysPairs_123 rfl) ?_
    refine snd_cons (snd_bipush X dX8_laysPairs_124 (by decide)) ?_
    refine snd_cons (snd_irem X dX8_laysPairs_126) ?_
    refine snd_cons (snd_baload X dX8_laysPairs_127) ?_
    refine snd_cons (snd_if_eq X dX8_laysPairs_128 (by decide)) ?_
    refine snd_cons (snd_aload_n X dX8_laysPairs_131 rfl) ?_
    refine snd_cons (snd_iload_n X dX8_laysPairs_132 rfl) ?_
    exact snd_nil
  refine snd_cons (snd_bipush X dX8_laysPairs_133 (by decide)) ?_
  refine snd_cons (snd_idiv X dX8_laysPairs_135) ?_
  refine snd_cons (snd_iconst X dX8_laysPairs_136 (by decide)) ?_
  refine snd_cons (snd_iadd X dX8_laysPairs_137) ?_
  refine snd_cons (snd_iload_n X dX8_laysPairs_138 rfl) ?_
  refine snd_cons (snd_bipush X dX8_laysPairs_139 (by decide)) ?_
  refine snd_cons (snd_irem X dX8_laysPairs_141) ?_
  refine snd_cons (snd_bipush X dX8_laysPairs_142 (by decide)) ?_
  refine snd_cons (snd_isub X dX8_laysPairs_144) ?_
  refine snd_cons (snd_iload_n X dX8_laysPairs_145 rfl) ?_
  refine snd_cons (snd_bipush X dX8_laysPairs_146 (by decide)) ?_
  refine snd_cons (snd_idiv X dX8_laysPairs_148) ?_
  refine snd_cons (snd_iconst X dX8_laysPairs_149 (by decide)) ?_
  refine snd_cons (snd_iadd X dX8_laysPairs_150) ?_
  refine snd_cons (snd_iload_n X dX8_laysPairs_151 rfl) ?_
  refine snd_cons (snd_bipush X dX8_laysPairs_152 (by decide)) ?_
  refine snd_cons (snd_irem X dX8_laysPairs_154) ?_
  refine snd_cons (snd_bipush X dX8_laysPairs_155 (by decide)) ?_
  refine snd_cons (snd_isub X dX8_laysPairs_157) ?_
  refine snd_cons (snd_callV X Fk8 (ok_X8_laysPair l D ca) rfl rfl w_906 w_908 wp_44 w_9 w_909 (by decide) (by decide) dX8_laysPairs_158) ?_
  refine snd_cons (snd_iinc X dX8_laysPairs_161 (by decide) (by decide)) ?_
  refine snd_cons (snd_goto X dX8_laysPairs_164 (by decide)) ?_
  refine snd_cons (snd_iinc X dX8_laysPairs_167 (by decide) (by decide)) ?_
  refine snd_cons (snd_goto X dX8_laysPairs_170 (by decide)) ?_
  refine snd_cons (snd_vret X dX8_laysPairs_173) ?_
  exact snd_nil
theorem k_X8_laysPairs_0 (ca : Nat → ClassId) : k_X8_laysPairs ca 0 = i_push (.int 0) 1 := rfl
theorem k_X8_laysPairs_1 (ca : Nat → ClassId) : k_X8_laysPairs ca 1 = i_istore 1 2 := rfl
theorem k_X8_laysPairs_2 (ca : Nat → ClassId) : k_X8_laysPairs ca 2 = i_iload 1 3 := rfl
theorem k_X8_laysPairs_3 (ca : Nat → ClassId) : k_X8_laysPairs ca 3 = i_push (.int 61) 5 := rfl
theorem k_X8_laysPairs_5 (ca : Nat → ClassId) : k_X8_laysPairs ca 5 = i_icmp (fun x y => y ≤ x) 21 8 := rfl
theorem k_X8_laysPairs_8 (ca : Nat → ClassId) : k_X8_laysPairs ca 8 = i_aload 0 9 := rfl
theorem k_X8_laysPairs_9 (ca : Nat → ClassId) : k_X8_laysPairs ca 9 = i_getf 8 9 12 := rfl
theorem k_X8_laysPairs_12 (ca : Nat → ClassId) : k_X8_laysPairs ca 12 = i_iload 1 13 := rfl
theorem k_X8_laysPairs_13 (ca : Nat → ClassId) : k_X8_laysPairs ca 13 = i_push (.int 0) 14 := rfl
theorem k_X8_laysPairs_14 (ca : Nat → ClassId) : k_X8_laysPairs ca 14 = i_ast (vp_nar .boolean) (ca 2) 15 := rfl
theorem k_X8_laysPairs_15 (ca : Nat → ClassId) : k_X8_laysPairs ca 15 = i_iinc 1 1 18 := rfl
theorem k_X8_laysPairs_18 (ca : Nat → ClassId) : k_X8_laysPairs ca 18 = i_goto 2 := rfl
theorem k_X8_laysPairs_21 (ca : Nat → ClassId) : k_X8_laysPairs ca 21 = i_push (.int 0) 22 := rfl
theorem k_X8_laysPairs_22 (ca : Nat → ClassId) : k_X8_laysPairs ca 22 = i_istore 1 23 := rfl
theorem k_X8_laysPairs_23 (ca : Nat → ClassId) : k_X8_laysPairs ca 23 = i_iload 1 24 := rfl
theorem k_X8_laysPairs_24 (ca : Nat → ClassId) : k_X8_laysPairs ca 24 = i_push (.int 36) 26 := rfl
theorem k_X8_laysPairs_26 (ca : Nat → ClassId) : k_X8_laysPairs ca 26 = i_icmp (fun x y => y ≤ x) 67 29 := rfl
theorem k_X8_laysPairs_29 (ca : Nat → ClassId) : k_X8_laysPairs ca 29 = i_aload 0 30 := rfl
theorem k_X8_laysPairs_30 (ca : Nat → ClassId) : k_X8_laysPairs ca 30 = i_getf 8 9 33 := rfl
theorem k_X8_laysPairs_33 (ca : Nat → ClassId) : k_X8_laysPairs ca 33 = i_aload 0 34 := rfl
theorem k_X8_laysPairs_34 (ca : Nat → ClassId) : k_X8_laysPairs ca 34 = i_getf 8 0 37 := rfl
theorem k_X8_laysPairs_37 (ca : Nat → ClassId) : k_X8_laysPairs ca 37 = i_push (.int 0) 38 := rfl
theorem k_X8_laysPairs_38 (ca : Nat → ClassId) : k_X8_laysPairs ca 38 = i_iload 1 39 := rfl
theorem k_X8_laysPairs_39 (ca : Nat → ClassId) : k_X8_laysPairs ca 39 = i_push (.int 6) 41 := rfl
theorem k_X8_laysPairs_41 (ca : Nat → ClassId) : k_X8_laysPairs ca 41 = i_dv (fun x y => x / y) 42 := rfl
theorem k_X8_laysPairs_42 (ca : Nat → ClassId) : k_X8_laysPairs ca 42 = i_bin (fun x y => x + y) 43 := rfl
theorem k_X8_laysPairs_43 (ca : Nat → ClassId) : k_X8_laysPairs ca 43 = i_ald (ca 0) 44 := rfl
theorem k_X8_laysPairs_44 (ca : Nat → ClassId) : k_X8_laysPairs ca 44 = i_aload 0 45 := rfl
theorem k_X8_laysPairs_45 (ca : Nat → ClassId) : k_X8_laysPairs ca 45 = i_getf 8 0 48 := rfl
theorem k_X8_laysPairs_48 (ca : Nat → ClassId) : k_X8_laysPairs ca 48 = i_push (.int 0) 49 := rfl
theorem k_X8_laysPairs_49 (ca : Nat → ClassId) : k_X8_laysPairs ca 49 = i_iload 1 50 := rfl
theorem k_X8_laysPairs_50 (ca : Nat → ClassId) : k_X8_laysPairs ca 50 = i_push (.int 6) 52 := rfl
theorem k_X8_laysPairs_52 (ca : Nat → ClassId) : k_X8_laysPairs ca 52 = i_dv (fun x y => x - x / y * y) 53 := rfl
theorem k_X8_laysPairs_53 (ca : Nat → ClassId) : k_X8_laysPairs ca 53 = i_bin (fun x y => x + y) 54 := rfl
theorem k_X8_laysPairs_54 (ca : Nat → ClassId) : k_X8_laysPairs ca 54 = i_ald (ca 0) 55 := rfl
theorem k_X8_laysPairs_55 (ca : Nat → ClassId) : k_X8_laysPairs ca 55 = i_bin (fun x y => x - y) 56 := rfl
theorem k_X8_laysPairs_56 (ca : Nat → ClassId) : k_X8_laysPairs ca 56 = i_push (.int 30) 58 := rfl
theorem k_X8_laysPairs_58 (ca : Nat → ClassId) : k_X8_laysPairs ca 58 = i_bin (fun x y => x + y) 59 := rfl
theorem k_X8_laysPairs_59 (ca : Nat → ClassId) : k_X8_laysPairs ca 59 = i_push (.int 1) 60 := rfl
theorem k_X8_laysPairs_60 (ca : Nat → ClassId) : k_X8_laysPairs ca 60 = i_ast (vp_nar .boolean) (ca 2) 61 := rfl
theorem k_X8_laysPairs_61 (ca : Nat → ClassId) : k_X8_laysPairs ca 61 = i_iinc 1 1 64 := rfl
theorem k_X8_laysPairs_64 (ca : Nat → ClassId) : k_X8_laysPairs ca 64 = i_goto 23 := rfl
theorem k_X8_laysPairs_67 (ca : Nat → ClassId) : k_X8_laysPairs ca 67 = i_push (.int 0) 68 := rfl
theorem k_X8_laysPairs_68 (ca : Nat → ClassId) : k_X8_laysPairs ca 68 = i_istore 1 69 := rfl
theorem k_X8_laysPairs_69 (ca : Nat → ClassId) : k_X8_laysPairs ca 69 = i_iload 1 70 := rfl
theorem k_X8_laysPairs_70 (ca : Nat → ClassId) : k_X8_laysPairs ca 70 = i_push (.int 18377) 73 := rfl
theorem k_X8_laysPairs_73 (ca : Nat → ClassId) : k_X8_laysPairs ca 73 = i_icmp (fun x y => y ≤ x) 89 76 := rfl
theorem k_X8_laysPairs_76 (ca : Nat → ClassId) : k_X8_laysPairs ca 76 = i_aload 0 77 := rfl
theorem k_X8_laysPairs_77 (ca : Nat → ClassId) : k_X8_laysPairs ca 77 = i_getf 8 10 80 := rfl
theorem k_X8_laysPairs_80 (ca : Nat → ClassId) : k_X8_laysPairs ca 80 = i_iload 1 81 := rfl
theorem k_X8_laysPairs_81 (ca : Nat → ClassId) : k_X8_laysPairs ca 81 = i_push (.int 0) 82 := rfl
theorem k_X8_laysPairs_82 (ca : Nat → ClassId) : k_X8_laysPairs ca 82 = i_ast (vp_nar .boolean) (ca 2) 83 := rfl
theorem k_X8_laysPairs_83 (ca : Nat → ClassId) : k_X8_laysPairs ca 83 = i_iinc 1 1 86 := rfl
theorem k_X8_laysPairs_86 (ca : Nat → ClassId) : k_X8_laysPairs ca 86 = i_goto 69 := rfl
theorem k_X8_laysPairs_89 (ca : Nat → ClassId) : k_X8_laysPairs ca 89 = i_push (.int 0) 90 := rfl
theorem k_X8_laysPairs_90 (ca : Nat → ClassId) : k_X8_laysPairs ca 90 = i_istore 1 91 := rfl
theorem k_X8_laysPairs_91 (ca : Nat → ClassId) : k_X8_laysPairs ca 91 = i_iload 1 92 := rfl
theorem k_X8_laysPairs_92 (ca : Nat → ClassId) : k_X8_laysPairs ca 92 = i_push (.int 549) 95 := rfl
theorem k_X8_laysPairs_95 (ca : Nat → ClassId) : k_X8_laysPairs ca 95 = i_icmp (fun x y => y ≤ x) 173 98 := rfl
theorem k_X8_laysPairs_98 (ca : Nat → ClassId) : k_X8_laysPairs ca 98 = i_push (.int 0) 99 := rfl
theorem k_X8_laysPairs_99 (ca : Nat → ClassId) : k_X8_laysPairs ca 99 = i_istore 2 100 := rfl
theorem k_X8_laysPairs_100 (ca : Nat → ClassId) : k_X8_laysPairs ca 100 = i_iload 2 101 := rfl
theorem k_X8_laysPairs_101 (ca : Nat → ClassId) : k_X8_laysPairs ca 101 = i_push (.int 549) 104 := rfl
theorem k_X8_laysPairs_104 (ca : Nat → ClassId) : k_X8_laysPairs ca 104 = i_icmp (fun x y => y ≤ x) 167 107 := rfl
theorem k_X8_laysPairs_107 (ca : Nat → ClassId) : k_X8_laysPairs ca 107 = i_aload 0 108 := rfl
theorem k_X8_laysPairs_108 (ca : Nat → ClassId) : k_X8_laysPairs ca 108 = i_getf 8 9 111 := rfl
theorem k_X8_laysPairs_111 (ca : Nat → ClassId) : k_X8_laysPairs ca 111 = i_iload 1 112 := rfl
theorem k_X8_laysPairs_112 (ca : Nat → ClassId) : k_X8_laysPairs ca 112 = i_push (.int 61) 114 := rfl
theorem k_X8_laysPairs_114 (ca : Nat → ClassId) : k_X8_laysPairs ca 114 = i_dv (fun x y => x - x / y * y) 115 := rfl
theorem k_X8_laysPairs_115 (ca : Nat → ClassId) : k_X8_laysPairs ca 115 = i_ald (ca 2) 116 := rfl
theorem k_X8_laysPairs_116 (ca : Nat → ClassId) : k_X8_laysPairs ca 116 = i_if (fun x => x = 0) 167 119 := rfl
theorem k_X8_laysPairs_119 (ca : Nat → ClassId) : k_X8_laysPairs ca 119 = i_aload 0 120 := rfl
theorem k_X8_laysPairs_120 (ca : Nat → ClassId) : k_X8_laysPairs ca 120 = i_getf 8 9 123 := rfl
theorem k_X8_laysPairs_123 (ca : Nat → ClassId) : k_X8_laysPairs ca 123 = i_iload 2 124 := rfl
theorem k_X8_laysPairs_124 (ca : Nat → ClassId) : k_X8_laysPairs ca 124 = i_push (.int 61) 126 := rfl
theorem k_X8_laysPairs_126 (ca : Nat → ClassId) : k_X8_laysPairs ca 126 = i_dv (fun x y => x - x / y * y) 127 := rfl
theorem k_X8_laysPairs_127 (ca : Nat → ClassId) : k_X8_laysPairs ca 127 = i_ald (ca 2) 128 := rfl
theorem k_X8_laysPairs_128 (ca : Nat → ClassId) : k_X8_laysPairs ca 128 = i_if (fun x => x = 0) 161 131 := rfl
theorem k_X8_laysPairs_131 (ca : Nat → ClassId) : k_X8_laysPairs ca 131 = i_aload 0 132 := rfl
theorem k_X8_laysPairs_132 (ca : Nat → ClassId) : k_X8_laysPairs ca 132 = i_iload 1 133 := rfl
theorem k_X8_laysPairs_133 (ca : Nat → ClassId) : k_X8_laysPairs ca 133 = i_push (.int 61) 135 := rfl
theorem k_X8_laysPairs_135 (ca : Nat → ClassId) : k_X8_laysPairs ca 135 = i_dv (fun x y => x / y) 136 := rfl
theorem k_X8_laysPairs_136 (ca : Nat → ClassId) : k_X8_laysPairs ca 136 = i_push (.int 1) 137 := rfl
theorem k_X8_laysPairs_137 (ca : Nat → ClassId) : k_X8_laysPairs ca 137 = i_bin (fun x y => x + y) 138 := rfl
theorem k_X8_laysPairs_138 (ca : Nat → ClassId) : k_X8_laysPairs ca 138 = i_iload 1 139 := rfl
theorem k_X8_laysPairs_139 (ca : Nat → ClassId) : k_X8_laysPairs ca 139 = i_push (.int 61) 141 := rfl
theorem k_X8_laysPairs_141 (ca : Nat → ClassId) : k_X8_laysPairs ca 141 = i_dv (fun x y => x - x / y * y) 142 := rfl
theorem k_X8_laysPairs_142 (ca : Nat → ClassId) : k_X8_laysPairs ca 142 = i_push (.int 30) 144 := rfl
theorem k_X8_laysPairs_144 (ca : Nat → ClassId) : k_X8_laysPairs ca 144 = i_bin (fun x y => x - y) 145 := rfl
theorem k_X8_laysPairs_145 (ca : Nat → ClassId) : k_X8_laysPairs ca 145 = i_iload 2 146 := rfl
theorem k_X8_laysPairs_146 (ca : Nat → ClassId) : k_X8_laysPairs ca 146 = i_push (.int 61) 148 := rfl
theorem k_X8_laysPairs_148 (ca : Nat → ClassId) : k_X8_laysPairs ca 148 = i_dv (fun x y => x / y) 149 := rfl
theorem k_X8_laysPairs_149 (ca : Nat → ClassId) : k_X8_laysPairs ca 149 = i_push (.int 1) 150 := rfl
theorem k_X8_laysPairs_150 (ca : Nat → ClassId) : k_X8_laysPairs ca 150 = i_bin (fun x y => x + y) 151 := rfl
theorem k_X8_laysPairs_151 (ca : Nat → ClassId) : k_X8_laysPairs ca 151 = i_iload 2 152 := rfl
theorem k_X8_laysPairs_152 (ca : Nat → ClassId) : k_X8_laysPairs ca 152 = i_push (.int 61) 154 := rfl
theorem k_X8_laysPairs_154 (ca : Nat → ClassId) : k_X8_laysPairs ca 154 = i_dv (fun x y => x - x / y * y) 155 := rfl
theorem k_X8_laysPairs_155 (ca : Nat → ClassId) : k_X8_laysPairs ca 155 = i_push (.int 30) 157 := rfl
theorem k_X8_laysPairs_157 (ca : Nat → ClassId) : k_X8_laysPairs ca 157 = i_bin (fun x y => x - y) 158 := rfl
theorem k_X8_laysPairs_158 (ca : Nat → ClassId) : k_X8_laysPairs ca 158 = i_callV 8 4 0 0 0 0 (sp_X8_laysPair ca) 161 := rfl
theorem k_X8_laysPairs_161 (ca : Nat → ClassId) : k_X8_laysPairs ca 161 = i_iinc 2 1 164 := rfl
theorem k_X8_laysPairs_164 (ca : Nat → ClassId) : k_X8_laysPairs ca 164 = i_goto 100 := rfl
theorem k_X8_laysPairs_167 (ca : Nat → ClassId) : k_X8_laysPairs ca 167 = i_iinc 1 1 170 := rfl
theorem k_X8_laysPairs_170 (ca : Nat → ClassId) : k_X8_laysPairs ca 170 = i_goto 91 := rfl
theorem k_X8_laysPairs_173 (ca : Nat → ClassId) : k_X8_laysPairs ca 173 = i_vret := rfl
set_option maxHeartbeats 4000000 in
set_option maxRecDepth 20000 in
theorem ok_X8_laysPairs (l : Launch) (D : va_G) (ca : Nat → ClassId) : OkAll l D ca yX8_laysPairs cX8_laysPairs 3 none 1 0 0 (sp_X8_laysPairs ca) := by
  intro av h post hs
  obtain ⟨m, a, s, iw, ip, rfl, I, hMC, h0, h7, h8, hN, hs⟩ := hs
  obtain ⟨st, len, fm, at', re, hm⟩ := id hMC
  unfold eMod at hm
  have d7 := I.2 7
  have d8 := I.2 8
  have d07 : ¬ a 0 = a 7 := I.ne (by decide)
  have d78 : ¬ a 7 = a 8 := I.ne (by decide)
  have d87 : ¬ a 8 = a 7 := I.ne (by decide)
  refine okM_of t_X8_laysPairs (by decide +kernel) (c1_ref c1_nil) (Nat.le_of_ble_eq_true rfl) ?_
  intro K go
  -- the fourth loops
  have four : ∀ iw' ip0, WayOk s iw' → (∀ j, j < 18377 → ip0 j = 0) → ∀ x2, K 0 0 91 [some (.ref m), some (.int 0), x2] [] (va_up (va_up h (a 7) (some (.inl (ca 2, 61, .inl iw')))) (a 8) (some (.inl (ca 2, 18377, .inl ip0)))) := by
    intro iw' ip0 hw h0' x2
    have key : ∀ r o ip1 x2, o + r = 549 → (∀ j, j < 18377 → ip1 j = b2i (anyB (pairP s j) o)) → K 0 0 91 [some (.ref m), some (.int (nI o)), x2] [] (va_up (va_up h (a 7) (some (.inl (ca 2, 61, .inl iw')))) (a 8) (some (.inl (ca 2, 18377, .inl ip1)))) := by
      intro r
      induction r with
      | zero =>
        intro o ip1 x2 ho h1
        have ho : o = 549 := ho
        subst ho
        have e : nI 549 = 549 := rfl
        refine goN go (stp []) 160 _ _ _ _ _ _ (fun F hF hF0 => ?_)
        simp only [hF, hF0, ite_not, i_push, i_iload, i_lload, i_aload, i_istore, i_astore, i_lstore, i_iinc, i_bin, i_dv, i_un, i_lbin, i_lsh, i_i2l, i_l2i, i_lcmp, i_dup, i_dup2, i_pop, i_if, i_icmp, i_goto, swG, i_sw, i_getf, i_puti, i_putz, i_putr, i_ald, i_lald, i_aald, i_ast, i_last, i_aast, i_alen, i_new, i_newi, i_newl, i_newq, i_oinit, i_ret, i_zret, i_lret, i_vret, catS, tk, rpush, isO, i_m1, i_m2, i_acopy, i_callV, i_callS, KRet, lget, lput, lputL, lcl0, isL, lv0, List.map_cons, List.map_nil, List.length_cons, List.length_nil, List.cons_append, List.nil_append, Nat.reduceAdd, Nat.reduceSub, Nat.reduceLeDiff, List.replicate_succ, List.replicate_zero, List.getElem?_cons_succ, List.getElem?_cons_zero, List.set_cons_succ, List.set_cons_zero, true_and, and_true, if_true, if_false, ↓reduceIte, Nat.le_refl, Value.category, va_up_app, eq_self, stp, Nat.reduceBEq, Bool.or_false, Bool.false_or, Bool.true_or, Bool.or_true, or_true, true_or, bx_uu, implies_true, true_implies, not_true, not_false_eq_true, false_implies, and_self, Nat.reduceLT, Int32.reduceAdd, Int32.reduceSub, Int32.reduceMul, Int32.reduceLE, Int32.reduceLT, Int32.reduceToNatClampNeg, va_rf_some, Bool.false_eq_true, k_X8_laysPairs_0 ca, k_X8_laysPairs_1 ca, k_X8_laysPairs_2 ca, k_X8_laysPairs_3 ca, k_X8_laysPairs_5 ca, k_X8_laysPairs_8 ca, k_X8_laysPairs_9 ca, k_X8_laysPairs_12 ca, k_X8_laysPairs_13 ca, k_X8_laysPairs_14 ca, k_X8_laysPairs_15 ca, k_X8_laysPairs_18 ca, k_X8_laysPairs_21 ca, k_X8_laysPairs_22 ca, k_X8_laysPairs_23 ca, k_X8_laysPairs_24 ca, k_X8_laysPairs_26 ca, k_X8_laysPairs_29 ca, k_X8_laysPairs_30 ca, k_X8_laysPairs_33 ca, k_X8_laysPairs_34 ca, k_X8_laysPairs_37 ca, k_X8_laysPairs_38 ca, k_X8_laysPairs_39 ca, k_X8_laysPairs_41 ca, k_X8_laysPairs_42 ca, k_X8_laysPairs_43 ca, k_X8_laysPairs_44 ca, k_X8_laysPairs_45 ca, k_X8_laysPairs_48 ca, k_X8_laysPairs_49 ca, k_X8_laysPairs_50 ca, k_X8_laysPairs_52 ca, k_X8_laysPairs_53 ca, k_X8_laysPairs_54 ca, k_X8_laysPairs_55 ca, k_X8_laysPairs_56 ca, k_X8_laysPairs_58 ca, k_X8_laysPairs_59 ca, k_X8_laysPairs_60 ca, k_X8_laysPairs_61 ca, k_X8_laysPairs_64 ca, k_X8_laysPairs_67 ca, k_X8_laysPairs_68 ca, k_X8_laysPairs_69 ca, k_X8_laysPairs_70 ca, k_X8_laysPairs_73 ca, k_X8_laysPairs_76 ca, k_X8_laysPairs_77 ca, k_X8_laysPairs_80 ca, k_X8_laysPairs_81 ca, k_X8_laysPairs_82 ca, k_X8_laysPairs_83 ca, k_X8_laysPairs_86 ca, k_X8_laysPairs_89 ca, k_X8_laysPairs_90 ca, k_X8_laysPairs_91 ca, k_X8_laysPairs_92 ca, k_X8_laysPairs_95 ca, k_X8_laysPairs_98 ca, k_X8_laysPairs_99 ca, k_X8_laysPairs_100 ca, k_X8_laysPairs_101 ca, k_X8_laysPairs_104 ca, k_X8_laysPairs_107 ca, k_X8_laysPairs_108 ca, k_X8_laysPairs_111 ca, k_X8_laysPairs_112 ca, k_X8_laysPairs_114 ca, k_X8_laysPairs_115 ca, k_X8_laysPairs_116 ca, k_X8_laysPairs_119 ca, k_X8_laysPairs_120 ca, k_X8_laysPairs_123 ca, k_X8_laysPairs_124 ca, k_X8_laysPairs_126 ca, k_X8_laysPairs_127 ca, k_X8_laysPairs_128 ca, k_X8_laysPairs_131 ca, k_X8_laysPairs_132 ca, k_X8_laysPairs_133 ca, k_X8_laysPairs_135 ca, k_X8_laysPairs_136 ca, k_X8_laysPairs_137 ca, k_X8_laysPairs_138 ca, k_X8_laysPairs_139 ca, k_X8_laysPairs_141 ca, k_X8_laysPairs_142 ca, k_X8_laysPairs_144 ca, k_X8_laysPairs_145 ca, k_X8_laysPairs_146 ca, k_X8_laysPairs_148 ca, k_X8_laysPairs_149 ca, k_X8_laysPairs_150 ca, k_X8_laysPairs_151 ca, k_X8_laysPairs_152 ca, k_X8_laysPairs_154 ca, k_X8_laysPairs_155 ca, k_X8_laysPairs_157 ca, k_X8_laysPairs_158 ca, k_X8_laysPairs_161 ca, k_X8_laysPairs_164 ca, k_X8_laysPairs_167 ca, k_X8_laysPairs_170 ca, k_X8_laysPairs_173 ca, e]
        try clear hF hF0 F
        exact hs iw' ip1 hw h1
      | succ r ih =>
        intro o ip1 x2 ho h1
        have g1 : ¬ 549 ≤ nI o := nI_ge (b := 549) (by omega) (by decide)
        have m61 := Nat.mod_lt o (show 61 > 0 by decide)
        have r61 := rem61 (k := o) (by omega)
        have r61b := rem61b (k := o) (by omega)
        have d61 := div61 (k := o) (by omega)
        have y0 : vp_in (nI (o % 61)) 61 := vp_in_nI (by omega) (by decide)
        have y1 : (nI (o % 61)).toNatClampNeg = o % 61 := nI_clamp (by omega)
        have y2 := hw (o % 61) m61
        cases q : wayB s (o % 61) with
        | false =>
          rw [q, b2i_f] at y2
          have k0 := ih (o + 1) ip1 (some (.int 0)) (by omega) (fun j hj => by
            have z : pairP s j o = false := by unfold pairP; rw [q, Bool.false_and]
            rw [h1 j hj, show anyB (pairP s j) (o + 1) = (anyB (pairP s j) o || pairP s j o) from rfl, z, Bool.or_false])
          refine goN go (stp [91]) 160 _ _ _ _ _ _ (fun F hF hF0 => ?_)
          simp only [hF, hF0, ite_not, i_push, i_iload, i_lload, i_aload, i_istore, i_astore, i_lstore, i_iinc, i_bin, i_dv, i_un, i_lbin, i_lsh, i_i2l, i_l2i, i_lcmp, i_dup, i_dup2, i_pop, i_if, i_icmp, i_goto, swG, i_sw, i_getf, i_puti, i_putz, i_putr, i_ald, i_lald, i_aald, i_ast, i_last, i_aast, i_alen, i_new, i_newi, i_newl, i_newq, i_oinit, i_ret, i_zret, i_lret, i_vret, catS, tk, rpush, isO, i_m1, i_m2, i_acopy, i_callV, i_callS, KRet, lget, lput, lputL, lcl0, isL, lv0, List.map_cons, List.map_nil, List.length_cons, List.length_nil, List.cons_append, List.nil_append, Nat.reduceAdd, Nat.reduceSub, Nat.reduceLeDiff, List.replicate_succ, List.replicate_zero, List.getElem?_cons_succ, List.getElem?_cons_zero, List.set_cons_succ, List.set_cons_zero, true_and, and_true, if_true, if_false, ↓reduceIte, Nat.le_refl, Value.category, va_up_app, eq_self, stp, Nat.reduceBEq, Bool.or_false, Bool.false_or, Bool.true_or, Bool.or_true, or_true, true_or, bx_uu, implies_true, true_implies, not_true, not_false_eq_true, false_implies, and_self, Nat.reduceLT, Int32.reduceAdd, Int32.reduceSub, Int32.reduceMul, Int32.reduceLE, Int32.reduceLT, Int32.reduceToNatClampNeg, va_rf_some, Bool.false_eq_true, k_X8_laysPairs_0 ca, k_X8_laysPairs_1 ca, k_X8_laysPairs_2 ca, k_X8_laysPairs_3 ca, k_X8_laysPairs_5 ca, k_X8_laysPairs_8 ca, k_X8_laysPairs_9 ca, k_X8_laysPairs_12 ca, k_X8_laysPairs_13 ca, k_X8_laysPairs_14 ca, k_X8_laysPairs_15 ca, k_X8_laysPairs_18 ca, k_X8_laysPairs_21 ca, k_X8_laysPairs_22 ca, k_X8_laysPairs_23 ca, k_X8_laysPairs_24 ca, k_X8_laysPairs_26 ca, k_X8_laysPairs_29 ca, k_X8_laysPairs_30 ca, k_X8_laysPairs_33 ca, k_X8_laysPairs_34 ca, k_X8_laysPairs_37 ca, k_X8_laysPairs_38 ca, k_X8_laysPairs_39 ca, k_X8_laysPairs_41 ca, k_X8_laysPairs_42 ca, k_X8_laysPairs_43 ca, k_X8_laysPairs_44 ca, k_X8_laysPairs_45 ca, k_X8_laysPairs_48 ca, k_X8_laysPairs_49 ca, k_X8_laysPairs_50 ca, k_X8_laysPairs_52 ca, k_X8_laysPairs_53 ca, k_X8_laysPairs_54 ca, k_X8_laysPairs_55 ca, k_X8_laysPairs_56 ca, k_X8_laysPairs_58 ca, k_X8_laysPairs_59 ca, k_X8_laysPairs_60 ca, k_X8_laysPairs_61 ca, k_X8_laysPairs_64 ca, k_X8_laysPairs_67 ca, k_X8_laysPairs_68 ca, k_X8_laysPairs_69 ca, k_X8_laysPairs_70 ca, k_X8_laysPairs_73 ca, k_X8_laysPairs_76 ca, k_X8_laysPairs_77 ca, k_X8_laysPairs_80 ca, k_X8_laysPairs_81 ca, k_X8_laysPairs_82 ca, k_X8_laysPairs_83 ca, k_X8_laysPairs_86 ca, k_X8_laysPairs_89 ca, k_X8_laysPairs_90 ca, k_X8_laysPairs_91 ca, k_X8_laysPairs_92 ca, k_X8_laysPairs_95 ca, k_X8_laysPairs_98 ca, k_X8_laysPairs_99 ca, k_X8_laysPairs_100 ca, k_X8_laysPairs_101 ca, k_X8_laysPairs_104 ca, k_X8_laysPairs_107 ca, k_X8_laysPairs_108 ca, k_X8_laysPairs_111 ca, k_X8_laysPairs_112 ca, k_X8_laysPairs_114 ca, k_X8_laysPairs_115 ca, k_X8_laysPairs_116 ca, k_X8_laysPairs_119 ca, k_X8_laysPairs_120 ca, k_X8_laysPairs_123 ca, k_X8_laysPairs_124 ca, k_X8_laysPairs_126 ca, k_X8_laysPairs_127 ca, k_X8_laysPairs_128 ca, k_X8_laysPairs_131 ca, k_X8_laysPairs_132 ca, k_X8_laysPairs_133 ca, k_X8_laysPairs_135 ca, k_X8_laysPairs_136 ca, k_X8_laysPairs_137 ca, k_X8_laysPairs_138 ca, k_X8_laysPairs_139 ca, k_X8_laysPairs_141 ca, k_X8_laysPairs_142 ca, k_X8_laysPairs_144 ca, k_X8_laysPairs_145 ca, k_X8_laysPairs_146 ca, k_X8_laysPairs_148 ca, k_X8_laysPairs_149 ca, k_X8_laysPairs_150 ca, k_X8_laysPairs_151 ca, k_X8_laysPairs_152 ca, k_X8_laysPairs_154 ca, k_X8_laysPairs_155 ca, k_X8_laysPairs_157 ca, k_X8_laysPairs_158 ca, k_X8_laysPairs_161 ca, k_X8_laysPairs_164 ca, k_X8_laysPairs_167 ca, k_X8_laysPairs_170 ca, k_X8_laysPairs_173 ca, g1, hm, d7, d8, d78, r61, r61b, y0, y1, y2, n610, a_1]
          try clear hF hF0 F
          exact k0
        | true =>
          rw [q, b2i_t] at y2
          have inner : ∀ r2 w ip2, w + r2 = 549 → (∀ j, j < 18377 → ip2 j = b2i (anyB (pairP s j) o || anyB (pairQ s o j) w)) → K 0 0 100 [some (.ref m), some (.int (nI o)), some (.int (nI w))] [] (va_up (va_up h (a 7) (some (.inl (ca 2, 61, .inl iw')))) (a 8) (some (.inl (ca 2, 18377, .inl ip2)))) := by
            intro r2
            induction r2 with
            | zero =>
              intro w ip2 hw2 h2
              have hw2 : w = 549 := hw2
              subst hw2
              have e : nI 549 = 549 := rfl
              have k0 := ih (o + 1) ip2 (some (.int 549)) (by omega) (fun j hj => by
                rw [h2 j hj]
                have z : pairP s j o = anyB (pairQ s o j) 549 := by unfold pairP; rw [q, Bool.true_and]
                rw [show anyB (pairP s j) (o + 1) = (anyB (pairP s j) o || pairP s j o) from rfl, z])
              refine goN go (stp [91]) 160 _ _ _ _ _ _ (fun F hF hF0 => ?_)
              simp only [hF, hF0, ite_not, i_push, i_iload, i_lload, i_aload, i_istore, i_astore, i_lstore, i_iinc, i_bin, i_dv, i_un, i_lbin, i_lsh, i_i2l, i_l2i, i_lcmp, i_dup, i_dup2, i_pop, i_if, i_icmp, i_goto, swG, i_sw, i_getf, i_puti, i_putz, i_putr, i_ald, i_lald, i_aald, i_ast, i_last, i_aast, i_alen, i_new, i_newi, i_newl, i_newq, i_oinit, i_ret, i_zret, i_lret, i_vret, catS, tk, rpush, isO, i_m1, i_m2, i_acopy, i_callV, i_callS, KRet, lget, lput, lputL, lcl0, isL, lv0, List.map_cons, List.map_nil, List.length_cons, List.length_nil, List.cons_append, List.nil_append, Nat.reduceAdd, Nat.reduceSub, Nat.reduceLeDiff, List.replicate_succ, List.replicate_zero, List.getElem?_cons_succ, List.getElem?_cons_zero, List.set_cons_succ, List.set_cons_zero, true_and, and_true, if_true, if_false, ↓reduceIte, Nat.le_refl, Value.category, va_up_app, eq_self, stp, Nat.reduceBEq, Bool.or_false, Bool.false_or, Bool.true_or, Bool.or_true, or_true, true_or, bx_uu, implies_true, true_implies, not_true, not_false_eq_true, false_implies, and_self, Nat.reduceLT, Int32.reduceAdd, Int32.reduceSub, Int32.reduceMul, Int32.reduceLE, Int32.reduceLT, Int32.reduceToNatClampNeg, va_rf_some, Bool.false_eq_true, k_X8_laysPairs_0 ca, k_X8_laysPairs_1 ca, k_X8_laysPairs_2 ca, k_X8_laysPairs_3 ca, k_X8_laysPairs_5 ca, k_X8_laysPairs_8 ca, k_X8_laysPairs_9 ca, k_X8_laysPairs_12 ca, k_X8_laysPairs_13 ca, k_X8_laysPairs_14 ca, k_X8_laysPairs_15 ca, k_X8_laysPairs_18 ca, k_X8_laysPairs_21 ca, k_X8_laysPairs_22 ca, k_X8_laysPairs_23 ca, k_X8_laysPairs_24 ca, k_X8_laysPairs_26 ca, k_X8_laysPairs_29 ca, k_X8_laysPairs_30 ca, k_X8_laysPairs_33 ca, k_X8_laysPairs_34 ca, k_X8_laysPairs_37 ca, k_X8_laysPairs_38 ca, k_X8_laysPairs_39 ca, k_X8_laysPairs_41 ca, k_X8_laysPairs_42 ca, k_X8_laysPairs_43 ca, k_X8_laysPairs_44 ca, k_X8_laysPairs_45 ca, k_X8_laysPairs_48 ca, k_X8_laysPairs_49 ca, k_X8_laysPairs_50 ca, k_X8_laysPairs_52 ca, k_X8_laysPairs_53 ca, k_X8_laysPairs_54 ca, k_X8_laysPairs_55 ca, k_X8_laysPairs_56 ca, k_X8_laysPairs_58 ca, k_X8_laysPairs_59 ca, k_X8_laysPairs_60 ca, k_X8_laysPairs_61 ca, k_X8_laysPairs_64 ca, k_X8_laysPairs_67 ca, k_X8_laysPairs_68 ca, k_X8_laysPairs_69 ca, k_X8_laysPairs_70 ca, k_X8_laysPairs_73 ca, k_X8_laysPairs_76 ca, k_X8_laysPairs_77 ca, k_X8_laysPairs_80 ca, k_X8_laysPairs_81 ca, k_X8_laysPairs_82 ca, k_X8_laysPairs_83 ca, k_X8_laysPairs_86 ca, k_X8_laysPairs_89 ca, k_X8_laysPairs_90 ca, k_X8_laysPairs_91 ca, k_X8_laysPairs_92 ca, k_X8_laysPairs_95 ca, k_X8_laysPairs_98 ca, k_X8_laysPairs_99 ca, k_X8_laysPairs_100 ca, k_X8_laysPairs_101 ca, k_X8_laysPairs_104 ca, k_X8_laysPairs_107 ca, k_X8_laysPairs_108 ca, k_X8_laysPairs_111 ca, k_X8_laysPairs_112 ca, k_X8_laysPairs_114 ca, k_X8_laysPairs_115 ca, k_X8_laysPairs_116 ca, k_X8_laysPairs_119 ca, k_X8_laysPairs_120 ca, k_X8_laysPairs_123 ca, k_X8_laysPairs_124 ca, k_X8_laysPairs_126 ca, k_X8_laysPairs_127 ca, k_X8_laysPairs_128 ca, k_X8_laysPairs_131 ca, k_X8_laysPairs_132 ca, k_X8_laysPairs_133 ca, k_X8_laysPairs_135 ca, k_X8_laysPairs_136 ca, k_X8_laysPairs_137 ca, k_X8_laysPairs_138 ca, k_X8_laysPairs_139 ca, k_X8_laysPairs_141 ca, k_X8_laysPairs_142 ca, k_X8_laysPairs_144 ca, k_X8_laysPairs_145 ca, k_X8_laysPairs_146 ca, k_X8_laysPairs_148 ca, k_X8_laysPairs_149 ca, k_X8_laysPairs_150 ca, k_X8_laysPairs_151 ca, k_X8_laysPairs_152 ca, k_X8_laysPairs_154 ca, k_X8_laysPairs_155 ca, k_X8_laysPairs_157 ca, k_X8_laysPairs_158 ca, k_X8_laysPairs_161 ca, k_X8_laysPairs_164 ca, k_X8_laysPairs_167 ca, k_X8_laysPairs_170 ca, k_X8_laysPairs_173 ca, e, a_1]
              try clear hF hF0 F
              exact k0
            | succ r2 ih2 =>
              intro w ip2 hw2 h2
              have g2 : ¬ 549 ≤ nI w := nI_ge (b := 549) (by omega) (by decide)
              have mw61 := Nat.mod_lt w (show 61 > 0 by decide)
              have rw61 := rem61 (k := w) (by omega)
              have rw61b := rem61b (k := w) (by omega)
              have dw61 := div61 (k := w) (by omega)
              have v0 : vp_in (nI (w % 61)) 61 := vp_in_nI (by omega) (by decide)
              have v1 : (nI (w % 61)).toNatClampNeg = w % 61 := nI_clamp (by omega)
              have v2 := hw (w % 61) mw61
              cases q2 : wayB s (w % 61) with
              | false =>
                rw [q2, b2i_f] at v2
                have k0 := ih2 (w + 1) ip2 (by omega) (fun j hj => by
                  rw [h2 j hj]
                  have z : pairQ s o j w = false := by unfold pairQ; rw [q2, Bool.false_and]
                  rw [show anyB (pairQ s o j) (w + 1) = (anyB (pairQ s o j) w || pairQ s o j w) from rfl, z, Bool.or_false])
                refine goN go (stp [100]) 160 _ _ _ _ _ _ (fun F hF hF0 => ?_)
                simp only [hF, hF0, ite_not, i_push, i_iload, i_lload, i_aload, i_istore, i_astore, i_lstore, i_iinc, i_bin, i_dv, i_un, i_lbin, i_lsh, i_i2l, i_l2i, i_lcmp, i_dup, i_dup2, i_pop, i_if, i_icmp, i_goto, swG, i_sw, i_getf, i_puti, i_putz, i_putr, i_ald, i_lald, i_aald, i_ast, i_last, i_aast, i_alen, i_new, i_newi, i_newl, i_newq, i_oinit, i_ret, i_zret, i_lret, i_vret, catS, tk, rpush, isO, i_m1, i_m2, i_acopy, i_callV, i_callS, KRet, lget, lput, lputL, lcl0, isL, lv0, List.map_cons, List.map_nil, List.length_cons, List.length_nil, List.cons_append, List.nil_append, Nat.reduceAdd, Nat.reduceSub, Nat.reduceLeDiff, List.replicate_succ, List.replicate_zero, List.getElem?_cons_succ, List.getElem?_cons_zero, List.set_cons_succ, List.set_cons_zero, true_and, and_true, if_true, if_false, ↓reduceIte, Nat.le_refl, Value.category, va_up_app, eq_self, stp, Nat.reduceBEq, Bool.or_false, Bool.false_or, Bool.true_or, Bool.or_true, or_true, true_or, bx_uu, implies_true, true_implies, not_true, not_false_eq_true, false_implies, and_self, Nat.reduceLT, Int32.reduceAdd, Int32.reduceSub, Int32.reduceMul, Int32.reduceLE, Int32.reduceLT, Int32.reduceToNatClampNeg, va_rf_some, Bool.false_eq_true, k_X8_laysPairs_0 ca, k_X8_laysPairs_1 ca, k_X8_laysPairs_2 ca, k_X8_laysPairs_3 ca, k_X8_laysPairs_5 ca, k_X8_laysPairs_8 ca, k_X8_laysPairs_9 ca, k_X8_laysPairs_12 ca, k_X8_laysPairs_13 ca, k_X8_laysPairs_14 ca, k_X8_laysPairs_15 ca, k_X8_laysPairs_18 ca, k_X8_laysPairs_21 ca, k_X8_laysPairs_22 ca, k_X8_laysPairs_23 ca, k_X8_laysPairs_24 ca, k_X8_laysPairs_26 ca, k_X8_laysPairs_29 ca, k_X8_laysPairs_30 ca, k_X8_laysPairs_33 ca, k_X8_laysPairs_34 ca, k_X8_laysPairs_37 ca, k_X8_laysPairs_38 ca, k_X8_laysPairs_39 ca, k_X8_laysPairs_41 ca, k_X8_laysPairs_42 ca, k_X8_laysPairs_43 ca, k_X8_laysPairs_44 ca, k_X8_laysPairs_45 ca, k_X8_laysPairs_48 ca, k_X8_laysPairs_49 ca, k_X8_laysPairs_50 ca, k_X8_laysPairs_52 ca, k_X8_laysPairs_53 ca, k_X8_laysPairs_54 ca, k_X8_laysPairs_55 ca, k_X8_laysPairs_56 ca, k_X8_laysPairs_58 ca, k_X8_laysPairs_59 ca, k_X8_laysPairs_60 ca, k_X8_laysPairs_61 ca, k_X8_laysPairs_64 ca, k_X8_laysPairs_67 ca, k_X8_laysPairs_68 ca, k_X8_laysPairs_69 ca, k_X8_laysPairs_70 ca, k_X8_laysPairs_73 ca, k_X8_laysPairs_76 ca, k_X8_laysPairs_77 ca, k_X8_laysPairs_80 ca, k_X8_laysPairs_81 ca, k_X8_laysPairs_82 ca, k_X8_laysPairs_83 ca, k_X8_laysPairs_86 ca, k_X8_laysPairs_89 ca, k_X8_laysPairs_90 ca, k_X8_laysPairs_91 ca, k_X8_laysPairs_92 ca, k_X8_laysPairs_95 ca, k_X8_laysPairs_98 ca, k_X8_laysPairs_99 ca, k_X8_laysPairs_100 ca, k_X8_laysPairs_101 ca, k_X8_laysPairs_104 ca, k_X8_laysPairs_107 ca, k_X8_laysPairs_108 ca, k_X8_laysPairs_111 ca, k_X8_laysPairs_112 ca, k_X8_laysPairs_114 ca, k_X8_laysPairs_115 ca, k_X8_laysPairs_116 ca, k_X8_laysPairs_119 ca, k_X8_laysPairs_120 ca, k_X8_laysPairs_123 ca, k_X8_laysPairs_124 ca, k_X8_laysPairs_126 ca, k_X8_laysPairs_127 ca, k_X8_laysPairs_128 ca, k_X8_laysPairs_131 ca, k_X8_laysPairs_132 ca, k_X8_laysPairs_133 ca, k_X8_laysPairs_135 ca, k_X8_laysPairs_136 ca, k_X8_laysPairs_137 ca, k_X8_laysPairs_138 ca, k_X8_laysPairs_139 ca, k_X8_laysPairs_141 ca, k_X8_laysPairs_142 ca, k_X8_laysPairs_144 ca, k_X8_laysPairs_145 ca, k_X8_laysPairs_146 ca, k_X8_laysPairs_148 ca, k_X8_laysPairs_149 ca, k_X8_laysPairs_150 ca, k_X8_laysPairs_151 ca, k_X8_laysPairs_152 ca, k_X8_laysPairs_154 ca, k_X8_laysPairs_155 ca, k_X8_laysPairs_157 ca, k_X8_laysPairs_158 ca, k_X8_laysPairs_161 ca, k_X8_laysPairs_164 ca, k_X8_laysPairs_167 ca, k_X8_laysPairs_170 ca, k_X8_laysPairs_173 ca, g2, hm, d7, d8, d78, r61, r61b, y0, y1, y2, rw61, rw61b, v0, v1, v2, n610, one0, a_1]
                try clear hF hF0 F
                exact k0
              | true =>
                rw [q2, b2i_t] at v2
                have k0 := ih2 (w + 1) (upd ip2 (pIx o w) 1) (by omega) (fun j hj => by
                  rw [upd_app, show anyB (pairQ s o j) (w + 1) = (anyB (pairQ s o j) w || pairQ s o j w) from rfl, ← Bool.or_assoc, b2i_or, ← h2 j hj, show pairQ s o j w = decide (pIx o w = j) by unfold pairQ; rw [q2, Bool.true_and]]
                  by_cases z : pIx o w = j
                  · rw [if_pos z.symm, if_pos (decide_eq_true z)]
                  · rw [if_neg (fun z2 => z z2.symm), if_neg (by rw [decide_eq_false z]; decide)])
                refine goN go (stp [161]) 160 _ _ _ _ _ _ (fun F hF hF0 => ?_)
                simp only [hF, hF0, ite_not, i_push, i_iload, i_lload, i_aload, i_istore, i_astore, i_lstore, i_iinc, i_bin, i_dv, i_un, i_lbin, i_lsh, i_i2l, i_l2i, i_lcmp, i_dup, i_dup2, i_pop, i_if, i_icmp, i_goto, swG, i_sw, i_getf, i_puti, i_putz, i_putr, i_ald, i_lald, i_aald, i_ast, i_last, i_aast, i_alen, i_new, i_newi, i_newl, i_newq, i_oinit, i_ret, i_zret, i_lret, i_vret, catS, tk, rpush, isO, i_m1, i_m2, i_acopy, i_callV, i_callS, KRet, lget, lput, lputL, lcl0, isL, lv0, List.map_cons, List.map_nil, List.length_cons, List.length_nil, List.cons_append, List.nil_append, Nat.reduceAdd, Nat.reduceSub, Nat.reduceLeDiff, List.replicate_succ, List.replicate_zero, List.getElem?_cons_succ, List.getElem?_cons_zero, List.set_cons_succ, List.set_cons_zero, true_and, and_true, if_true, if_false, ↓reduceIte, Nat.le_refl, Value.category, va_up_app, eq_self, stp, Nat.reduceBEq, Bool.or_false, Bool.false_or, Bool.true_or, Bool.or_true, or_true, true_or, bx_uu, implies_true, true_implies, not_true, not_false_eq_true, false_implies, and_self, Nat.reduceLT, Int32.reduceAdd, Int32.reduceSub, Int32.reduceMul, Int32.reduceLE, Int32.reduceLT, Int32.reduceToNatClampNeg, va_rf_some, Bool.false_eq_true, k_X8_laysPairs_0 ca, k_X8_laysPairs_1 ca, k_X8_laysPairs_2 ca, k_X8_laysPairs_3 ca, k_X8_laysPairs_5 ca, k_X8_laysPairs_8 ca, k_X8_laysPairs_9 ca, k_X8_laysPairs_12 ca, k_X8_laysPairs_13 ca, k_X8_laysPairs_14 ca, k_X8_laysPairs_15 ca, k_X8_laysPairs_18 ca, k_X8_laysPairs_21 ca, k_X8_laysPairs_22 ca, k_X8_laysPairs_23 ca, k_X8_laysPairs_24 ca, k_X8_laysPairs_26 ca, k_X8_laysPairs_29 ca, k_X8_laysPairs_30 ca, k_X8_laysPairs_33 ca, k_X8_laysPairs_34 ca, k_X8_laysPairs_37 ca, k_X8_laysPairs_38 ca, k_X8_laysPairs_39 ca, k_X8_laysPairs_41 ca, k_X8_laysPairs_42 ca, k_X8_laysPairs_43 ca, k_X8_laysPairs_44 ca, k_X8_laysPairs_45 ca, k_X8_laysPairs_48 ca, k_X8_laysPairs_49 ca, k_X8_laysPairs_50 ca, k_X8_laysPairs_52 ca, k_X8_laysPairs_53 ca, k_X8_laysPairs_54 ca, k_X8_laysPairs_55 ca, k_X8_laysPairs_56 ca, k_X8_laysPairs_58 ca, k_X8_laysPairs_59 ca, k_X8_laysPairs_60 ca, k_X8_laysPairs_61 ca, k_X8_laysPairs_64 ca, k_X8_laysPairs_67 ca, k_X8_laysPairs_68 ca, k_X8_laysPairs_69 ca, k_X8_laysPairs_70 ca, k_X8_laysPairs_73 ca, k_X8_laysPairs_76 ca, k_X8_laysPairs_77 ca, k_X8_laysPairs_80 ca, k_X8_laysPairs_81 ca, k_X8_laysPairs_82 ca, k_X8_laysPairs_83 ca, k_X8_laysPairs_86 ca, k_X8_laysPairs_89 ca, k_X8_laysPairs_90 ca, k_X8_laysPairs_91 ca, k_X8_laysPairs_92 ca, k_X8_laysPairs_95 ca, k_X8_laysPairs_98 ca, k_X8_laysPairs_99 ca, k_X8_laysPairs_100 ca, k_X8_laysPairs_101 ca, k_X8_laysPairs_104 ca, k_X8_laysPairs_107 ca, k_X8_laysPairs_108 ca, k_X8_laysPairs_111 ca, k_X8_laysPairs_112 ca, k_X8_laysPairs_114 ca, k_X8_laysPairs_115 ca, k_X8_laysPairs_116 ca, k_X8_laysPairs_119 ca, k_X8_laysPairs_120 ca, k_X8_laysPairs_123 ca, k_X8_laysPairs_124 ca, k_X8_laysPairs_126 ca, k_X8_laysPairs_127 ca, k_X8_laysPairs_128 ca, k_X8_laysPairs_131 ca, k_X8_laysPairs_132 ca, k_X8_laysPairs_133 ca, k_X8_laysPairs_135 ca, k_X8_laysPairs_136 ca, k_X8_laysPairs_137 ca, k_X8_laysPairs_138 ca, k_X8_laysPairs_139 ca, k_X8_laysPairs_141 ca, k_X8_laysPairs_142 ca, k_X8_laysPairs_144 ca, k_X8_laysPairs_145 ca, k_X8_laysPairs_146 ca, k_X8_laysPairs_148 ca, k_X8_laysPairs_149 ca, k_X8_laysPairs_150 ca, k_X8_laysPairs_151 ca, k_X8_laysPairs_152 ca, k_X8_laysPairs_154 ca, k_X8_laysPairs_155 ca, k_X8_laysPairs_157 ca, k_X8_laysPairs_158 ca, k_X8_laysPairs_161 ca, k_X8_laysPairs_164 ca, k_X8_laysPairs_167 ca, k_X8_laysPairs_170 ca, k_X8_laysPairs_173 ca, g2, hm, d7, d8, d78, r61, r61b, y0, y1, y2, rw61, rw61b, v0, v1, v2, n610, one0, a_1, d61, dw61]
                try clear hF hF0 F
                refine ⟨m, a, ip2, o, w, by omega, by omega, rfl, (hMC.up d7 _).up d8 _, va_up_self _ _ _, ?_⟩
                rw [bx_uu]
                refine goN go (stp [100]) 160 _ _ _ _ _ _ (fun F hF hF0 => ?_)
                simp only [hF, hF0, ite_not, i_push, i_iload, i_lload, i_aload, i_istore, i_astore, i_lstore, i_iinc, i_bin, i_dv, i_un, i_lbin, i_lsh, i_i2l, i_l2i, i_lcmp, i_dup, i_dup2, i_pop, i_if, i_icmp, i_goto, swG, i_sw, i_getf, i_puti, i_putz, i_putr, i_ald, i_lald, i_aald, i_ast, i_last, i_aast, i_alen, i_new, i_newi, i_newl, i_newq, i_oinit, i_ret, i_zret, i_lret, i_vret, catS, tk, rpush, isO, i_m1, i_m2, i_acopy, i_callV, i_callS, KRet, lget, lput, lputL, lcl0, isL, lv0, List.map_cons, List.map_nil, List.length_cons, List.length_nil, List.cons_append, List.nil_append, Nat.reduceAdd, Nat.reduceSub, Nat.reduceLeDiff, List.replicate_succ, List.replicate_zero, List.getElem?_cons_succ, List.getElem?_cons_zero, List.set_cons_succ, List.set_cons_zero, true_and, and_true, if_true, if_false, ↓reduceIte, Nat.le_refl, Value.category, va_up_app, eq_self, stp, Nat.reduceBEq, Bool.or_false, Bool.false_or, Bool.true_or, Bool.or_true, or_true, true_or, bx_uu, implies_true, true_implies, not_true, not_false_eq_true, false_implies, and_self, Nat.reduceLT, Int32.reduceAdd, Int32.reduceSub, Int32.reduceMul, Int32.reduceLE, Int32.reduceLT, Int32.reduceToNatClampNeg, va_rf_some, Bool.false_eq_true, k_X8_laysPairs_0 ca, k_X8_laysPairs_1 ca, k_X8_laysPairs_2 ca, k_X8_laysPairs_3 ca, k_X8_laysPairs_5 ca, k_X8_laysPairs_8 ca, k_X8_laysPairs_9 ca, k_X8_laysPairs_12 ca, k_X8_laysPairs_13 ca, k_X8_laysPairs_14 ca, k_X8_laysPairs_15 ca, k_X8_laysPairs_18 ca, k_X8_laysPairs_21 ca, k_X8_laysPairs_22 ca, k_X8_laysPairs_23 ca, k_X8_laysPairs_24 ca, k_X8_laysPairs_26 ca, k_X8_laysPairs_29 ca, k_X8_laysPairs_30 ca, k_X8_laysPairs_33 ca, k_X8_laysPairs_34 ca, k_X8_laysPairs_37 ca, k_X8_laysPairs_38 ca, k_X8_laysPairs_39 ca, k_X8_laysPairs_41 ca, k_X8_laysPairs_42 ca, k_X8_laysPairs_43 ca, k_X8_laysPairs_44 ca, k_X8_laysPairs_45 ca, k_X8_laysPairs_48 ca, k_X8_laysPairs_49 ca, k_X8_laysPairs_50 ca, k_X8_laysPairs_52 ca, k_X8_laysPairs_53 ca, k_X8_laysPairs_54 ca, k_X8_laysPairs_55 ca, k_X8_laysPairs_56 ca, k_X8_laysPairs_58 ca, k_X8_laysPairs_59 ca, k_X8_laysPairs_60 ca, k_X8_laysPairs_61 ca, k_X8_laysPairs_64 ca, k_X8_laysPairs_67 ca, k_X8_laysPairs_68 ca, k_X8_laysPairs_69 ca, k_X8_laysPairs_70 ca, k_X8_laysPairs_73 ca, k_X8_laysPairs_76 ca, k_X8_laysPairs_77 ca, k_X8_laysPairs_80 ca, k_X8_laysPairs_81 ca, k_X8_laysPairs_82 ca, k_X8_laysPairs_83 ca, k_X8_laysPairs_86 ca, k_X8_laysPairs_89 ca, k_X8_laysPairs_90 ca, k_X8_laysPairs_91 ca, k_X8_laysPairs_92 ca, k_X8_laysPairs_95 ca, k_X8_laysPairs_98 ca, k_X8_laysPairs_99 ca, k_X8_laysPairs_100 ca, k_X8_laysPairs_101 ca, k_X8_laysPairs_104 ca, k_X8_laysPairs_107 ca, k_X8_laysPairs_108 ca, k_X8_laysPairs_111 ca, k_X8_laysPairs_112 ca, k_X8_laysPairs_114 ca, k_X8_laysPairs_115 ca, k_X8_laysPairs_116 ca, k_X8_laysPairs_119 ca, k_X8_laysPairs_120 ca, k_X8_laysPairs_123 ca, k_X8_laysPairs_124 ca, k_X8_laysPairs_126 ca, k_X8_laysPairs_127 ca, k_X8_laysPairs_128 ca, k_X8_laysPairs_131 ca, k_X8_laysPairs_132 ca, k_X8_laysPairs_133 ca, k_X8_laysPairs_135 ca, k_X8_laysPairs_136 ca, k_X8_laysPairs_137 ca, k_X8_laysPairs_138 ca, k_X8_laysPairs_139 ca, k_X8_laysPairs_141 ca, k_X8_laysPairs_142 ca, k_X8_laysPairs_144 ca, k_X8_laysPairs_145 ca, k_X8_laysPairs_146 ca, k_X8_laysPairs_148 ca, k_X8_laysPairs_149 ca, k_X8_laysPairs_150 ca, k_X8_laysPairs_151 ca, k_X8_laysPairs_152 ca, k_X8_laysPairs_154 ca, k_X8_laysPairs_155 ca, k_X8_laysPairs_157 ca, k_X8_laysPairs_158 ca, k_X8_laysPairs_161 ca, k_X8_laysPairs_164 ca, k_X8_laysPairs_167 ca, k_X8_laysPairs_170 ca, k_X8_laysPairs_173 ca, a_1]
                try clear hF hF0 F
                exact k0
          have k0 := inner 549 0 ip1 (by omega) (fun j hj => by rw [h1 j hj, show anyB (pairQ s o j) 0 = false from rfl, Bool.or_false])
          rw [nI_0] at k0
          refine goN go (stp [100]) 160 _ _ _ _ _ _ (fun F hF hF0 => ?_)
          simp only [hF, hF0, ite_not, i_push, i_iload, i_lload, i_aload, i_istore, i_astore, i_lstore, i_iinc, i_bin, i_dv, i_un, i_lbin, i_lsh, i_i2l, i_l2i, i_lcmp, i_dup, i_dup2, i_pop, i_if, i_icmp, i_goto, swG, i_sw, i_getf, i_puti, i_putz, i_putr, i_ald, i_lald, i_aald, i_ast, i_last, i_aast, i_alen, i_new, i_newi, i_newl, i_newq, i_oinit, i_ret, i_zret, i_lret, i_vret, catS, tk, rpush, isO, i_m1, i_m2, i_acopy, i_callV, i_callS, KRet, lget, lput, lputL, lcl0, isL, lv0, List.map_cons, List.map_nil, List.length_cons, List.length_nil, List.cons_append, List.nil_append, Nat.reduceAdd, Nat.reduceSub, Nat.reduceLeDiff, List.replicate_succ, List.replicate_zero, List.getElem?_cons_succ, List.getElem?_cons_zero, List.set_cons_succ, List.set_cons_zero, true_and, and_true, if_true, if_false, ↓reduceIte, Nat.le_refl, Value.category, va_up_app, eq_self, stp, Nat.reduceBEq, Bool.or_false, Bool.false_or, Bool.true_or, Bool.or_true, or_true, true_or, bx_uu, implies_true, true_implies, not_true, not_false_eq_true, false_implies, and_self, Nat.reduceLT, Int32.reduceAdd, Int32.reduceSub, Int32.reduceMul, Int32.reduceLE, Int32.reduceLT, Int32.reduceToNatClampNeg, va_rf_some, Bool.false_eq_true, k_X8_laysPairs_0 ca, k_X8_laysPairs_1 ca, k_X8_laysPairs_2 ca, k_X8_laysPairs_3 ca, k_X8_laysPairs_5 ca, k_X8_laysPairs_8 ca, k_X8_laysPairs_9 ca, k_X8_laysPairs_12 ca, k_X8_laysPairs_13 ca, k_X8_laysPairs_14 ca, k_X8_laysPairs_15 ca, k_X8_laysPairs_18 ca, k_X8_laysPairs_21 ca, k_X8_laysPairs_22 ca, k_X8_laysPairs_23 ca, k_X8_laysPairs_24 ca, k_X8_laysPairs_26 ca, k_X8_laysPairs_29 ca, k_X8_laysPairs_30 ca, k_X8_laysPairs_33 ca, k_X8_laysPairs_34 ca, k_X8_laysPairs_37 ca, k_X8_laysPairs_38 ca, k_X8_laysPairs_39 ca, k_X8_laysPairs_41 ca, k_X8_laysPairs_42 ca, k_X8_laysPairs_43 ca, k_X8_laysPairs_44 ca, k_X8_laysPairs_45 ca, k_X8_laysPairs_48 ca, k_X8_laysPairs_49 ca, k_X8_laysPairs_50 ca, k_X8_laysPairs_52 ca, k_X8_laysPairs_53 ca, k_X8_laysPairs_54 ca, k_X8_laysPairs_55 ca, k_X8_laysPairs_56 ca, k_X8_laysPairs_58 ca, k_X8_laysPairs_59 ca, k_X8_laysPairs_60 ca, k_X8_laysPairs_61 ca, k_X8_laysPairs_64 ca, k_X8_laysPairs_67 ca, k_X8_laysPairs_68 ca, k_X8_laysPairs_69 ca, k_X8_laysPairs_70 ca, k_X8_laysPairs_73 ca, k_X8_laysPairs_76 ca, k_X8_laysPairs_77 ca, k_X8_laysPairs_80 ca, k_X8_laysPairs_81 ca, k_X8_laysPairs_82 ca, k_X8_laysPairs_83 ca, k_X8_laysPairs_86 ca, k_X8_laysPairs_89 ca, k_X8_laysPairs_90 ca, k_X8_laysPairs_91 ca, k_X8_laysPairs_92 ca, k_X8_laysPairs_95 ca, k_X8_laysPairs_98 ca, k_X8_laysPairs_99 ca, k_X8_laysPairs_100 ca, k_X8_laysPairs_101 ca, k_X8_laysPairs_104 ca, k_X8_laysPairs_107 ca, k_X8_laysPairs_108 ca, k_X8_laysPairs_111 ca, k_X8_laysPairs_112 ca, k_X8_laysPairs_114 ca, k_X8_laysPairs_115 ca, k_X8_laysPairs_116 ca, k_X8_laysPairs_119 ca, k_X8_laysPairs_120 ca, k_X8_laysPairs_123 ca, k_X8_laysPairs_124 ca, k_X8_laysPairs_126 ca, k_X8_laysPairs_127 ca, k_X8_laysPairs_128 ca, k_X8_laysPairs_131 ca, k_X8_laysPairs_132 ca, k_X8_laysPairs_133 ca, k_X8_laysPairs_135 ca, k_X8_laysPairs_136 ca, k_X8_laysPairs_137 ca, k_X8_laysPairs_138 ca, k_X8_laysPairs_139 ca, k_X8_laysPairs_141 ca, k_X8_laysPairs_142 ca, k_X8_laysPairs_144 ca, k_X8_laysPairs_145 ca, k_X8_laysPairs_146 ca, k_X8_laysPairs_148 ca, k_X8_laysPairs_149 ca, k_X8_laysPairs_150 ca, k_X8_laysPairs_151 ca, k_X8_laysPairs_152 ca, k_X8_laysPairs_154 ca, k_X8_laysPairs_155 ca, k_X8_laysPairs_157 ca, k_X8_laysPairs_158 ca, k_X8_laysPairs_161 ca, k_X8_laysPairs_164 ca, k_X8_laysPairs_167 ca, k_X8_laysPairs_170 ca, k_X8_laysPairs_173 ca, g1]
          try clear hF hF0 F
          exact k0
    have k0 := key 549 0 ip0 x2 (by omega) (fun j hj => (h0' j hj).trans rfl)
    rw [nI_0] at k0
    exact k0
  -- the third: all pairs off
  have three : ∀ iw' ip1 x2, WayOk s iw' → ∀ r i, i + r = 18377 → K 0 0 69 [some (.ref m), some (.int (nI i)), x2] [] (va_up (va_up h (a 7) (some (.inl (ca 2, 61, .inl iw')))) (a 8) (some (.inl (ca 2, 18377, .inl (flo (fun _ => 0) ip1 i))))) := by
    intro iw' ip1 x2 hw r
    induction r with
    | zero =>
      intro i hi
      have hi : i = 18377 := hi
      subst hi
      have e : nI 18377 = 18377 := rfl
      have k0 := four iw' (flo (fun _ => 0) ip1 18377) hw (fun j hj => flo_in hj) x2
      refine goN go (stp [91]) 160 _ _ _ _ _ _ (fun F hF hF0 => ?_)
      simp only [hF, hF0, ite_not, i_push, i_iload, i_lload, i_aload, i_istore, i_astore, i_lstore, i_iinc, i_bin, i_dv, i_un, i_lbin, i_lsh, i_i2l, i_l2i, i_lcmp, i_dup, i_dup2, i_pop, i_if, i_icmp, i_goto, swG, i_sw, i_getf, i_puti, i_putz, i_putr, i_ald, i_lald, i_aald, i_ast, i_last, i_aast, i_alen, i_new, i_newi, i_newl, i_newq, i_oinit, i_ret, i_zret, i_lret, i_vret, catS, tk, rpush, isO, i_m1, i_m2, i_acopy, i_callV, i_callS, KRet, lget, lput, lputL, lcl0, isL, lv0, List.map_cons, List.map_nil, List.length_cons, List.length_nil, List.cons_append, List.nil_append, Nat.reduceAdd, Nat.reduceSub, Nat.reduceLeDiff, List.replicate_succ, List.replicate_zero, List.getElem?_cons_succ, List.getElem?_cons_zero, List.set_cons_succ, List.set_cons_zero, true_and, and_true, if_true, if_false, ↓reduceIte, Nat.le_refl, Value.category, va_up_app, eq_self, stp, Nat.reduceBEq, Bool.or_false, Bool.false_or, Bool.true_or, Bool.or_true, or_true, true_or, bx_uu, implies_true, true_implies, not_true, not_false_eq_true, false_implies, and_self, Nat.reduceLT, Int32.reduceAdd, Int32.reduceSub, Int32.reduceMul, Int32.reduceLE, Int32.reduceLT, Int32.reduceToNatClampNeg, va_rf_some, Bool.false_eq_true, k_X8_laysPairs_0 ca, k_X8_laysPairs_1 ca, k_X8_laysPairs_2 ca, k_X8_laysPairs_3 ca, k_X8_laysPairs_5 ca, k_X8_laysPairs_8 ca, k_X8_laysPairs_9 ca, k_X8_laysPairs_12 ca, k_X8_laysPairs_13 ca, k_X8_laysPairs_14 ca, k_X8_laysPairs_15 ca, k_X8_laysPairs_18 ca, k_X8_laysPairs_21 ca, k_X8_laysPairs_22 ca, k_X8_laysPairs_23 ca, k_X8_laysPairs_24 ca, k_X8_laysPairs_26 ca, k_X8_laysPairs_29 ca, k_X8_laysPairs_30 ca, k_X8_laysPairs_33 ca, k_X8_laysPairs_34 ca, k_X8_laysPairs_37 ca, k_X8_laysPairs_38 ca, k_X8_laysPairs_39 ca, k_X8_laysPairs_41 ca, k_X8_laysPairs_42 ca, k_X8_laysPairs_43 ca, k_X8_laysPairs_44 ca, k_X8_laysPairs_45 ca, k_X8_laysPairs_48 ca, k_X8_laysPairs_49 ca, k_X8_laysPairs_50 ca, k_X8_laysPairs_52 ca, k_X8_laysPairs_53 ca, k_X8_laysPairs_54 ca, k_X8_laysPairs_55 ca, k_X8_laysPairs_56 ca, k_X8_laysPairs_58 ca, k_X8_laysPairs_59 ca, k_X8_laysPairs_60 ca, k_X8_laysPairs_61 ca, k_X8_laysPairs_64 ca, k_X8_laysPairs_67 ca, k_X8_laysPairs_68 ca, k_X8_laysPairs_69 ca, k_X8_laysPairs_70 ca, k_X8_laysPairs_73 ca, k_X8_laysPairs_76 ca, k_X8_laysPairs_77 ca, k_X8_laysPairs_80 ca, k_X8_laysPairs_81 ca, k_X8_laysPairs_82 ca, k_X8_laysPairs_83 ca, k_X8_laysPairs_86 ca, k_X8_laysPairs_89 ca, k_X8_laysPairs_90 ca, k_X8_laysPairs_91 ca, k_X8_laysPairs_92 ca, k_X8_laysPairs_95 ca, k_X8_laysPairs_98 ca, k_X8_laysPairs_99 ca, k_X8_laysPairs_100 ca, k_X8_laysPairs_101 ca, k_X8_laysPairs_104 ca, k_X8_laysPairs_107 ca, k_X8_laysPairs_108 ca, k_X8_laysPairs_111 ca, k_X8_laysPairs_112 ca, k_X8_laysPairs_114 ca, k_X8_laysPairs_115 ca, k_X8_laysPairs_116 ca, k_X8_laysPairs_119 ca, k_X8_laysPairs_120 ca, k_X8_laysPairs_123 ca, k_X8_laysPairs_124 ca, k_X8_laysPairs_126 ca, k_X8_laysPairs_127 ca, k_X8_laysPairs_128 ca, k_X8_laysPairs_131 ca, k_X8_laysPairs_132 ca, k_X8_laysPairs_133 ca, k_X8_laysPairs_135 ca, k_X8_laysPairs_136 ca, k_X8_laysPairs_137 ca, k_X8_laysPairs_138 ca, k_X8_laysPairs_139 ca, k_X8_laysPairs_141 ca, k_X8_laysPairs_142 ca, k_X8_laysPairs_144 ca, k_X8_laysPairs_145 ca, k_X8_laysPairs_146 ca, k_X8_laysPairs_148 ca, k_X8_laysPairs_149 ca, k_X8_laysPairs_150 ca, k_X8_laysPairs_151 ca, k_X8_laysPairs_152 ca, k_X8_laysPairs_154 ca, k_X8_laysPairs_155 ca, k_X8_laysPairs_157 ca, k_X8_laysPairs_158 ca, k_X8_laysPairs_161 ca, k_X8_laysPairs_164 ca, k_X8_laysPairs_167 ca, k_X8_laysPairs_170 ca, k_X8_laysPairs_173 ca, e]
      try clear hF hF0 F
      exact k0
    | succ r ih =>
      intro i hi
      have g1 : ¬ 18377 ≤ nI i := nI_ge (b := 18377) (by omega) (by decide)
      have y0 : vp_in (nI i) 18377 := vp_in_nI (by omega) (by decide)
      have y1 : (nI i).toNatClampNeg = i := nI_clamp (by omega)
      have e : upd (flo (fun _ => (0 : Int32)) ip1 i) i 0 = flo (fun _ => 0) ip1 (i + 1) := flo_s (f := fun _ => (0 : Int32))
      have k0 := ih (i + 1) (by omega)
      refine goN go (stp [69]) 160 _ _ _ _ _ _ (fun F hF hF0 => ?_)
      simp only [hF, hF0, ite_not, i_push, i_iload, i_lload, i_aload, i_istore, i_astore, i_lstore, i_iinc, i_bin, i_dv, i_un, i_lbin, i_lsh, i_i2l, i_l2i, i_lcmp, i_dup, i_dup2, i_pop, i_if, i_icmp, i_goto, swG, i_sw, i_getf, i_puti, i_putz, i_putr, i_ald, i_lald, i_aald, i_ast, i_last, i_aast, i_alen, i_new, i_newi, i_newl, i_newq, i_oinit, i_ret, i_zret, i_lret, i_vret, catS, tk, rpush, isO, i_m1, i_m2, i_acopy, i_callV, i_callS, KRet, lget, lput, lputL, lcl0, isL, lv0, List.map_cons, List.map_nil, List.length_cons, List.length_nil, List.cons_append, List.nil_append, Nat.reduceAdd, Nat.reduceSub, Nat.reduceLeDiff, List.replicate_succ, List.replicate_zero, List.getElem?_cons_succ, List.getElem?_cons_zero, List.set_cons_succ, List.set_cons_zero, true_and, and_true, if_true, if_false, ↓reduceIte, Nat.le_refl, Value.category, va_up_app, eq_self, stp, Nat.reduceBEq, Bool.or_false, Bool.false_or, Bool.true_or, Bool.or_true, or_true, true_or, bx_uu, implies_true, true_implies, not_true, not_false_eq_true, false_implies, and_self, Nat.reduceLT, Int32.reduceAdd, Int32.reduceSub, Int32.reduceMul, Int32.reduceLE, Int32.reduceLT, Int32.reduceToNatClampNeg, va_rf_some, Bool.false_eq_true, k_X8_laysPairs_0 ca, k_X8_laysPairs_1 ca, k_X8_laysPairs_2 ca, k_X8_laysPairs_3 ca, k_X8_laysPairs_5 ca, k_X8_laysPairs_8 ca, k_X8_laysPairs_9 ca, k_X8_laysPairs_12 ca, k_X8_laysPairs_13 ca, k_X8_laysPairs_14 ca, k_X8_laysPairs_15 ca, k_X8_laysPairs_18 ca, k_X8_laysPairs_21 ca, k_X8_laysPairs_22 ca, k_X8_laysPairs_23 ca, k_X8_laysPairs_24 ca, k_X8_laysPairs_26 ca, k_X8_laysPairs_29 ca, k_X8_laysPairs_30 ca, k_X8_laysPairs_33 ca, k_X8_laysPairs_34 ca, k_X8_laysPairs_37 ca, k_X8_laysPairs_38 ca, k_X8_laysPairs_39 ca, k_X8_laysPairs_41 ca, k_X8_laysPairs_42 ca, k_X8_laysPairs_43 ca, k_X8_laysPairs_44 ca, k_X8_laysPairs_45 ca, k_X8_laysPairs_48 ca, k_X8_laysPairs_49 ca, k_X8_laysPairs_50 ca, k_X8_laysPairs_52 ca, k_X8_laysPairs_53 ca, k_X8_laysPairs_54 ca, k_X8_laysPairs_55 ca, k_X8_laysPairs_56 ca, k_X8_laysPairs_58 ca, k_X8_laysPairs_59 ca, k_X8_laysPairs_60 ca, k_X8_laysPairs_61 ca, k_X8_laysPairs_64 ca, k_X8_laysPairs_67 ca, k_X8_laysPairs_68 ca, k_X8_laysPairs_69 ca, k_X8_laysPairs_70 ca, k_X8_laysPairs_73 ca, k_X8_laysPairs_76 ca, k_X8_laysPairs_77 ca, k_X8_laysPairs_80 ca, k_X8_laysPairs_81 ca, k_X8_laysPairs_82 ca, k_X8_laysPairs_83 ca, k_X8_laysPairs_86 ca, k_X8_laysPairs_89 ca, k_X8_laysPairs_90 ca, k_X8_laysPairs_91 ca, k_X8_laysPairs_92 ca, k_X8_laysPairs_95 ca, k_X8_laysPairs_98 ca, k_X8_laysPairs_99 ca, k_X8_laysPairs_100 ca, k_X8_laysPairs_101 ca, k_X8_laysPairs_104 ca, k_X8_laysPairs_107 ca, k_X8_laysPairs_108 ca, k_X8_laysPairs_111 ca, k_X8_laysPairs_112 ca, k_X8_laysPairs_114 ca, k_X8_laysPairs_115 ca, k_X8_laysPairs_116 ca, k_X8_laysPairs_119 ca, k_X8_laysPairs_120 ca, k_X8_laysPairs_123 ca, k_X8_laysPairs_124 ca, k_X8_laysPairs_126 ca, k_X8_laysPairs_127 ca, k_X8_laysPairs_128 ca, k_X8_laysPairs_131 ca, k_X8_laysPairs_132 ca, k_X8_laysPairs_133 ca, k_X8_laysPairs_135 ca, k_X8_laysPairs_136 ca, k_X8_laysPairs_137 ca, k_X8_laysPairs_138 ca, k_X8_laysPairs_139 ca, k_X8_laysPairs_141 ca, k_X8_laysPairs_142 ca, k_X8_laysPairs_144 ca, k_X8_laysPairs_145 ca, k_X8_laysPairs_146 ca, k_X8_laysPairs_148 ca, k_X8_laysPairs_149 ca, k_X8_laysPairs_150 ca, k_X8_laysPairs_151 ca, k_X8_laysPairs_152 ca, k_X8_laysPairs_154 ca, k_X8_laysPairs_155 ca, k_X8_laysPairs_157 ca, k_X8_laysPairs_158 ca, k_X8_laysPairs_161 ca, k_X8_laysPairs_164 ca, k_X8_laysPairs_167 ca, k_X8_laysPairs_170 ca, k_X8_laysPairs_173 ca, g1, hm, d7, d8, y0, y1, e, a_1, nar0]
      try clear hF hF0 F
      exact k0
  clear four
  -- the second: the ways
  have two : ∀ r k iw1 x2, k + r = 36 → (∀ i, i < 61 → iw1 i = b2i (anyB (fun k => decide (wayIx s k = nI i)) k)) → K 0 0 23 [some (.ref m), some (.int (nI k)), x2] [] (va_up h (a 7) (some (.inl (ca 2, 61, .inl iw1)))) := by
    intro r
    induction r with
    | zero =>
      intro k iw1 x2 hk h1
      have hk : k = 36 := hk
      subst hk
      have e : nI 36 = 36 := rfl
      have k0 := three iw1 ip x2 h1 18377 0 (by omega)
      rw [flo_0, up_id ((va_up_ne _ _ d87).trans h8), nI_0] at k0
      refine goN go (stp [69]) 160 _ _ _ _ _ _ (fun F hF hF0 => ?_)
      simp only [hF, hF0, ite_not, i_push, i_iload, i_lload, i_aload, i_istore, i_astore, i_lstore, i_iinc, i_bin, i_dv, i_un, i_lbin, i_lsh, i_i2l, i_l2i, i_lcmp, i_dup, i_dup2, i_pop, i_if, i_icmp, i_goto, swG, i_sw, i_getf, i_puti, i_putz, i_putr, i_ald, i_lald, i_aald, i_ast, i_last, i_aast, i_alen, i_new, i_newi, i_newl, i_newq, i_oinit, i_ret, i_zret, i_lret, i_vret, catS, tk, rpush, isO, i_m1, i_m2, i_acopy, i_callV, i_callS, KRet, lget, lput, lputL, lcl0, isL, lv0, List.map_cons, List.map_nil, List.length_cons, List.length_nil, List.cons_append, List.nil_append, Nat.reduceAdd, Nat.reduceSub, Nat.reduceLeDiff, List.replicate_succ, List.replicate_zero, List.getElem?_cons_succ, List.getElem?_cons_zero, List.set_cons_succ, List.set_cons_zero, true_and, and_true, if_true, if_false, ↓reduceIte, Nat.le_refl, Value.category, va_up_app, eq_self, stp, Nat.reduceBEq, Bool.or_false, Bool.false_or, Bool.true_or, Bool.or_true, or_true, true_or, bx_uu, implies_true, true_implies, not_true, not_false_eq_true, false_implies, and_self, Nat.reduceLT, Int32.reduceAdd, Int32.reduceSub, Int32.reduceMul, Int32.reduceLE, Int32.reduceLT, Int32.reduceToNatClampNeg, va_rf_some, Bool.false_eq_true, k_X8_laysPairs_0 ca, k_X8_laysPairs_1 ca, k_X8_laysPairs_2 ca, k_X8_laysPairs_3 ca, k_X8_laysPairs_5 ca, k_X8_laysPairs_8 ca, k_X8_laysPairs_9 ca, k_X8_laysPairs_12 ca, k_X8_laysPairs_13 ca, k_X8_laysPairs_14 ca, k_X8_laysPairs_15 ca, k_X8_laysPairs_18 ca, k_X8_laysPairs_21 ca, k_X8_laysPairs_22 ca, k_X8_laysPairs_23 ca, k_X8_laysPairs_24 ca, k_X8_laysPairs_26 ca, k_X8_laysPairs_29 ca, k_X8_laysPairs_30 ca, k_X8_laysPairs_33 ca, k_X8_laysPairs_34 ca, k_X8_laysPairs_37 ca, k_X8_laysPairs_38 ca, k_X8_laysPairs_39 ca, k_X8_laysPairs_41 ca, k_X8_laysPairs_42 ca, k_X8_laysPairs_43 ca, k_X8_laysPairs_44 ca, k_X8_laysPairs_45 ca, k_X8_laysPairs_48 ca, k_X8_laysPairs_49 ca, k_X8_laysPairs_50 ca, k_X8_laysPairs_52 ca, k_X8_laysPairs_53 ca, k_X8_laysPairs_54 ca, k_X8_laysPairs_55 ca, k_X8_laysPairs_56 ca, k_X8_laysPairs_58 ca, k_X8_laysPairs_59 ca, k_X8_laysPairs_60 ca, k_X8_laysPairs_61 ca, k_X8_laysPairs_64 ca, k_X8_laysPairs_67 ca, k_X8_laysPairs_68 ca, k_X8_laysPairs_69 ca, k_X8_laysPairs_70 ca, k_X8_laysPairs_73 ca, k_X8_laysPairs_76 ca, k_X8_laysPairs_77 ca, k_X8_laysPairs_80 ca, k_X8_laysPairs_81 ca, k_X8_laysPairs_82 ca, k_X8_laysPairs_83 ca, k_X8_laysPairs_86 ca, k_X8_laysPairs_89 ca, k_X8_laysPairs_90 ca, k_X8_laysPairs_91 ca, k_X8_laysPairs_92 ca, k_X8_laysPairs_95 ca, k_X8_laysPairs_98 ca, k_X8_laysPairs_99 ca, k_X8_laysPairs_100 ca, k_X8_laysPairs_101 ca, k_X8_laysPairs_104 ca, k_X8_laysPairs_107 ca, k_X8_laysPairs_108 ca, k_X8_laysPairs_111 ca, k_X8_laysPairs_112 ca, k_X8_laysPairs_114 ca, k_X8_laysPairs_115 ca, k_X8_laysPairs_116 ca, k_X8_laysPairs_119 ca, k_X8_laysPairs_120 ca, k_X8_laysPairs_123 ca, k_X8_laysPairs_124 ca, k_X8_laysPairs_126 ca, k_X8_laysPairs_127 ca, k_X8_laysPairs_128 ca, k_X8_laysPairs_131 ca, k_X8_laysPairs_132 ca, k_X8_laysPairs_133 ca, k_X8_laysPairs_135 ca, k_X8_laysPairs_136 ca, k_X8_laysPairs_137 ca, k_X8_laysPairs_138 ca, k_X8_laysPairs_139 ca, k_X8_laysPairs_141 ca, k_X8_laysPairs_142 ca, k_X8_laysPairs_144 ca, k_X8_laysPairs_145 ca, k_X8_laysPairs_146 ca, k_X8_laysPairs_148 ca, k_X8_laysPairs_149 ca, k_X8_laysPairs_150 ca, k_X8_laysPairs_151 ca, k_X8_laysPairs_152 ca, k_X8_laysPairs_154 ca, k_X8_laysPairs_155 ca, k_X8_laysPairs_157 ca, k_X8_laysPairs_158 ca, k_X8_laysPairs_161 ca, k_X8_laysPairs_164 ca, k_X8_laysPairs_167 ca, k_X8_laysPairs_170 ca, k_X8_laysPairs_173 ca, e]
      try clear hF hF0 F
      exact k0
    | succ r ih =>
      intro k iw1 x2 hk h1
      have g1 : ¬ 36 ≤ nI k := nI_ge (b := 36) (by omega) (by decide)
      have r6 := rem6 (k := k) (by omega)
      have r6b := rem6b (k := k) (by omega)
      have d6 := div6 (k := k) (by omega)
      have z0 : vp_in (nI (k % 6)) 127 := vp127 (by omega)
      have z1 : (nI (k % 6)).toNatClampNeg = k % 6 := tn127 (by omega)
      have z2 : vp_in (nI (k / 6)) 127 := vp127 (by omega)
      have z3 : (nI (k / 6)).toNatClampNeg = k / 6 := tn127 (by omega)
      obtain ⟨x, hx, ex⟩ := wayIx_in hN (k := k) (by omega)
      have ex' : s (k / 6) - s (k % 6) + 30 = nI x := ex
      have y0 : vp_in (nI x) 61 := vp_in_nI hx (by decide)
      have y1 : (nI x).toNatClampNeg = x := nI_clamp (by omega)
      have k0 := ih (k + 1) (upd iw1 x 1) x2 (by omega) (fun i hi => by
        rw [upd_app, show anyB (fun k => decide (wayIx s k = nI i)) (k + 1) = (anyB (fun k => decide (wayIx s k = nI i)) k || decide (wayIx s k = nI i)) from rfl, b2i_or, ← h1 i hi, ex]
        by_cases z : i = x
        · rw [if_pos z, if_pos (by rw [z]; exact decide_eq_true rfl)]
        · rw [if_neg z, if_neg (by rw [decide_eq_false (fun z2 => z ((nI_eq (by omega) (by omega)).mp z2.symm))]; decide)])
      refine goN go (stp [23]) 160 _ _ _ _ _ _ (fun F hF hF0 => ?_)
      simp only [hF, hF0, ite_not, i_push, i_iload, i_lload, i_aload, i_istore, i_astore, i_lstore, i_iinc, i_bin, i_dv, i_un, i_lbin, i_lsh, i_i2l, i_l2i, i_lcmp, i_dup, i_dup2, i_pop, i_if, i_icmp, i_goto, swG, i_sw, i_getf, i_puti, i_putz, i_putr, i_ald, i_lald, i_aald, i_ast, i_last, i_aast, i_alen, i_new, i_newi, i_newl, i_newq, i_oinit, i_ret, i_zret, i_lret, i_vret, catS, tk, rpush, isO, i_m1, i_m2, i_acopy, i_callV, i_callS, KRet, lget, lput, lputL, lcl0, isL, lv0, List.map_cons, List.map_nil, List.length_cons, List.length_nil, List.cons_append, List.nil_append, Nat.reduceAdd, Nat.reduceSub, Nat.reduceLeDiff, List.replicate_succ, List.replicate_zero, List.getElem?_cons_succ, List.getElem?_cons_zero, List.set_cons_succ, List.set_cons_zero, true_and, and_true, if_true, if_false, ↓reduceIte, Nat.le_refl, Value.category, va_up_app, eq_self, stp, Nat.reduceBEq, Bool.or_false, Bool.false_or, Bool.true_or, Bool.or_true, or_true, true_or, bx_uu, implies_true, true_implies, not_true, not_false_eq_true, false_implies, and_self, Nat.reduceLT, Int32.reduceAdd, Int32.reduceSub, Int32.reduceMul, Int32.reduceLE, Int32.reduceLT, Int32.reduceToNatClampNeg, va_rf_some, Bool.false_eq_true, k_X8_laysPairs_0 ca, k_X8_laysPairs_1 ca, k_X8_laysPairs_2 ca, k_X8_laysPairs_3 ca, k_X8_laysPairs_5 ca, k_X8_laysPairs_8 ca, k_X8_laysPairs_9 ca, k_X8_laysPairs_12 ca, k_X8_laysPairs_13 ca, k_X8_laysPairs_14 ca, k_X8_laysPairs_15 ca, k_X8_laysPairs_18 ca, k_X8_laysPairs_21 ca, k_X8_laysPairs_22 ca, k_X8_laysPairs_23 ca, k_X8_laysPairs_24 ca, k_X8_laysPairs_26 ca, k_X8_laysPairs_29 ca, k_X8_laysPairs_30 ca, k_X8_laysPairs_33 ca, k_X8_laysPairs_34 ca, k_X8_laysPairs_37 ca, k_X8_laysPairs_38 ca, k_X8_laysPairs_39 ca, k_X8_laysPairs_41 ca, k_X8_laysPairs_42 ca, k_X8_laysPairs_43 ca, k_X8_laysPairs_44 ca, k_X8_laysPairs_45 ca, k_X8_laysPairs_48 ca, k_X8_laysPairs_49 ca, k_X8_laysPairs_50 ca, k_X8_laysPairs_52 ca, k_X8_laysPairs_53 ca, k_X8_laysPairs_54 ca, k_X8_laysPairs_55 ca, k_X8_laysPairs_56 ca, k_X8_laysPairs_58 ca, k_X8_laysPairs_59 ca, k_X8_laysPairs_60 ca, k_X8_laysPairs_61 ca, k_X8_laysPairs_64 ca, k_X8_laysPairs_67 ca, k_X8_laysPairs_68 ca, k_X8_laysPairs_69 ca, k_X8_laysPairs_70 ca, k_X8_laysPairs_73 ca, k_X8_laysPairs_76 ca, k_X8_laysPairs_77 ca, k_X8_laysPairs_80 ca, k_X8_laysPairs_81 ca, k_X8_laysPairs_82 ca, k_X8_laysPairs_83 ca, k_X8_laysPairs_86 ca, k_X8_laysPairs_89 ca, k_X8_laysPairs_90 ca, k_X8_laysPairs_91 ca, k_X8_laysPairs_92 ca, k_X8_laysPairs_95 ca, k_X8_laysPairs_98 ca, k_X8_laysPairs_99 ca, k_X8_laysPairs_100 ca, k_X8_laysPairs_101 ca, k_X8_laysPairs_104 ca, k_X8_laysPairs_107 ca, k_X8_laysPairs_108 ca, k_X8_laysPairs_111 ca, k_X8_laysPairs_112 ca, k_X8_laysPairs_114 ca, k_X8_laysPairs_115 ca, k_X8_laysPairs_116 ca, k_X8_laysPairs_119 ca, k_X8_laysPairs_120 ca, k_X8_laysPairs_123 ca, k_X8_laysPairs_124 ca, k_X8_laysPairs_126 ca, k_X8_laysPairs_127 ca, k_X8_laysPairs_128 ca, k_X8_laysPairs_131 ca, k_X8_laysPairs_132 ca, k_X8_laysPairs_133 ca, k_X8_laysPairs_135 ca, k_X8_laysPairs_136 ca, k_X8_laysPairs_137 ca, k_X8_laysPairs_138 ca, k_X8_laysPairs_139 ca, k_X8_laysPairs_141 ca, k_X8_laysPairs_142 ca, k_X8_laysPairs_144 ca, k_X8_laysPairs_145 ca, k_X8_laysPairs_146 ca, k_X8_laysPairs_148 ca, k_X8_laysPairs_149 ca, k_X8_laysPairs_150 ca, k_X8_laysPairs_151 ca, k_X8_laysPairs_152 ca, k_X8_laysPairs_154 ca, k_X8_laysPairs_155 ca, k_X8_laysPairs_157 ca, k_X8_laysPairs_158 ca, k_X8_laysPairs_161 ca, k_X8_laysPairs_164 ca, k_X8_laysPairs_167 ca, k_X8_laysPairs_170 ca, k_X8_laysPairs_173 ca, g1, hm, h0, d7, d07, r6, r6b, d6, n60, Int32.zero_add, z0, z1, z2, z3, ex', y0, y1, nar1, a_1]
      try clear hF hF0 F
      exact k0
  clear three
  -- the first: all ways off
  have one : ∀ r i, i + r = 61 → K 0 0 2 [some (.ref m), some (.int (nI i)), none] [] (va_up h (a 7) (some (.inl (ca 2, 61, .inl (flo (fun _ => 0) iw i))))) := by
    intro r
    induction r with
    | zero =>
      intro i hi
      have hi : i = 61 := hi
      subst hi
      have e : nI 61 = 61 := rfl
      have k0 := two 36 0 (flo (fun _ => 0) iw 61) none (by omega) (fun j hj => (flo_in hj).trans rfl)
      rw [nI_0] at k0
      refine goN go (stp [23]) 160 _ _ _ _ _ _ (fun F hF hF0 => ?_)
      simp only [hF, hF0, ite_not, i_push, i_iload, i_lload, i_aload, i_istore, i_astore, i_lstore, i_iinc, i_bin, i_dv, i_un, i_lbin, i_lsh, i_i2l, i_l2i, i_lcmp, i_dup, i_dup2, i_pop, i_if, i_icmp, i_goto, swG, i_sw, i_getf, i_puti, i_putz, i_putr, i_ald, i_lald, i_aald, i_ast, i_last, i_aast, i_alen, i_new, i_newi, i_newl, i_newq, i_oinit, i_ret, i_zret, i_lret, i_vret, catS, tk, rpush, isO, i_m1, i_m2, i_acopy, i_callV, i_callS, KRet, lget, lput, lputL, lcl0, isL, lv0, List.map_cons, List.map_nil, List.length_cons, List.length_nil, List.cons_append, List.nil_append, Nat.reduceAdd, Nat.reduceSub, Nat.reduceLeDiff, List.replicate_succ, List.replicate_zero, List.getElem?_cons_succ, List.getElem?_cons_zero, List.set_cons_succ, List.set_cons_zero, true_and, and_true, if_true, if_false, ↓reduceIte, Nat.le_refl, Value.category, va_up_app, eq_self, stp, Nat.reduceBEq, Bool.or_false, Bool.false_or, Bool.true_or, Bool.or_true, or_true, true_or, bx_uu, implies_true, true_implies, not_true, not_false_eq_true, false_implies, and_self, Nat.reduceLT, Int32.reduceAdd, Int32.reduceSub, Int32.reduceMul, Int32.reduceLE, Int32.reduceLT, Int32.reduceToNatClampNeg, va_rf_some, Bool.false_eq_true, k_X8_laysPairs_0 ca, k_X8_laysPairs_1 ca, k_X8_laysPairs_2 ca, k_X8_laysPairs_3 ca, k_X8_laysPairs_5 ca, k_X8_laysPairs_8 ca, k_X8_laysPairs_9 ca, k_X8_laysPairs_12 ca, k_X8_laysPairs_13 ca, k_X8_laysPairs_14 ca, k_X8_laysPairs_15 ca, k_X8_laysPairs_18 ca, k_X8_laysPairs_21 ca, k_X8_laysPairs_22 ca, k_X8_laysPairs_23 ca, k_X8_laysPairs_24 ca, k_X8_laysPairs_26 ca, k_X8_laysPairs_29 ca, k_X8_laysPairs_30 ca, k_X8_laysPairs_33 ca, k_X8_laysPairs_34 ca, k_X8_laysPairs_37 ca, k_X8_laysPairs_38 ca, k_X8_laysPairs_39 ca, k_X8_laysPairs_41 ca, k_X8_laysPairs_42 ca, k_X8_laysPairs_43 ca, k_X8_laysPairs_44 ca, k_X8_laysPairs_45 ca, k_X8_laysPairs_48 ca, k_X8_laysPairs_49 ca, k_X8_laysPairs_50 ca, k_X8_laysPairs_52 ca, k_X8_laysPairs_53 ca, k_X8_laysPairs_54 ca, k_X8_laysPairs_55 ca, k_X8_laysPairs_56 ca, k_X8_laysPairs_58 ca, k_X8_laysPairs_59 ca, k_X8_laysPairs_60 ca, k_X8_laysPairs_61 ca, k_X8_laysPairs_64 ca, k_X8_laysPairs_67 ca, k_X8_laysPairs_68 ca, k_X8_laysPairs_69 ca, k_X8_laysPairs_70 ca, k_X8_laysPairs_73 ca, k_X8_laysPairs_76 ca, k_X8_laysPairs_77 ca, k_X8_laysPairs_80 ca, k_X8_laysPairs_81 ca, k_X8_laysPairs_82 ca, k_X8_laysPairs_83 ca, k_X8_laysPairs_86 ca, k_X8_laysPairs_89 ca, k_X8_laysPairs_90 ca, k_X8_laysPairs_91 ca, k_X8_laysPairs_92 ca, k_X8_laysPairs_95 ca, k_X8_laysPairs_98 ca, k_X8_laysPairs_99 ca, k_X8_laysPairs_100 ca, k_X8_laysPairs_101 ca, k_X8_laysPairs_104 ca, k_X8_laysPairs_107 ca, k_X8_laysPairs_108 ca, k_X8_laysPairs_111 ca, k_X8_laysPairs_112 ca, k_X8_laysPairs_114 ca, k_X8_laysPairs_115 ca, k_X8_laysPairs_116 ca, k_X8_laysPairs_119 ca, k_X8_laysPairs_120 ca, k_X8_laysPairs_123 ca, k_X8_laysPairs_124 ca, k_X8_laysPairs_126 ca, k_X8_laysPairs_127 ca, k_X8_laysPairs_128 ca, k_X8_laysPairs_131 ca, k_X8_laysPairs_132 ca, k_X8_laysPairs_133 ca, k_X8_laysPairs_135 ca, k_X8_laysPairs_136 ca, k_X8_laysPairs_137 ca, k_X8_laysPairs_138 ca, k_X8_laysPairs_139 ca, k_X8_laysPairs_141 ca, k_X8_laysPairs_142 ca, k_X8_laysPairs_144 ca, k_X8_laysPairs_145 ca, k_X8_laysPairs_146 ca, k_X8_laysPairs_148 ca, k_X8_laysPairs_149 ca, k_X8_laysPairs_150 ca, k_X8_laysPairs_151 ca, k_X8_laysPairs_152 ca, k_X8_laysPairs_154 ca, k_X8_laysPairs_155 ca, k_X8_laysPairs_157 ca, k_X8_laysPairs_158 ca, k_X8_laysPairs_161 ca, k_X8_laysPairs_164 ca, k_X8_laysPairs_167 ca, k_X8_laysPairs_170 ca, k_X8_laysPairs_173 ca, e]
      try clear hF hF0 F
      exact k0
    | succ r ih =>
      intro i hi
      have g1 : ¬ 61 ≤ nI i := nI_ge (b := 61) (by omega) (by decide)
      have y0 : vp_in (nI i) 61 := vp_in_nI (by omega) (by decide)
      have y1 : (nI i).toNatClampNeg = i := nI_clamp (by omega)
      have e : upd (flo (fun _ => (0 : Int32)) iw i) i 0 = flo (fun _ => 0) iw (i + 1) := flo_s (f := fun _ => (0 : Int32))
      have k0 := ih (i + 1) (by omega)
      refine goN go (stp [2]) 160 _ _ _ _ _ _ (fun F hF hF0 => ?_)
      simp only [hF, hF0, ite_not, i_push, i_iload, i_lload, i_aload, i_istore, i_astore, i_lstore, i_iinc, i_bin, i_dv, i_un, i_lbin, i_lsh, i_i2l, i_l2i, i_lcmp, i_dup, i_dup2, i_pop, i_if, i_icmp, i_goto, swG, i_sw, i_getf, i_puti, i_putz, i_putr, i_ald, i_lald, i_aald, i_ast, i_last, i_aast, i_alen, i_new, i_newi, i_newl, i_newq, i_oinit, i_ret, i_zret, i_lret, i_vret, catS, tk, rpush, isO, i_m1, i_m2, i_acopy, i_callV, i_callS, KRet, lget, lput, lputL, lcl0, isL, lv0, List.map_cons, List.map_nil, List.length_cons, List.length_nil, List.cons_append, List.nil_append, Nat.reduceAdd, Nat.reduceSub, Nat.reduceLeDiff, List.replicate_succ, List.replicate_zero, List.getElem?_cons_succ, List.getElem?_cons_zero, List.set_cons_succ, List.set_cons_zero, true_and, and_true, if_true, if_false, ↓reduceIte, Nat.le_refl, Value.category, va_up_app, eq_self, stp, Nat.reduceBEq, Bool.or_false, Bool.false_or, Bool.true_or, Bool.or_true, or_true, true_or, bx_uu, implies_true, true_implies, not_true, not_false_eq_true, false_implies, and_self, Nat.reduceLT, Int32.reduceAdd, Int32.reduceSub, Int32.reduceMul, Int32.reduceLE, Int32.reduceLT, Int32.reduceToNatClampNeg, va_rf_some, Bool.false_eq_true, k_X8_laysPairs_0 ca, k_X8_laysPairs_1 ca, k_X8_laysPairs_2 ca, k_X8_laysPairs_3 ca, k_X8_laysPairs_5 ca, k_X8_laysPairs_8 ca, k_X8_laysPairs_9 ca, k_X8_laysPairs_12 ca, k_X8_laysPairs_13 ca, k_X8_laysPairs_14 ca, k_X8_laysPairs_15 ca, k_X8_laysPairs_18 ca, k_X8_laysPairs_21 ca, k_X8_laysPairs_22 ca, k_X8_laysPairs_23 ca, k_X8_laysPairs_24 ca, k_X8_laysPairs_26 ca, k_X8_laysPairs_29 ca, k_X8_laysPairs_30 ca, k_X8_laysPairs_33 ca, k_X8_laysPairs_34 ca, k_X8_laysPairs_37 ca, k_X8_laysPairs_38 ca, k_X8_laysPairs_39 ca, k_X8_laysPairs_41 ca, k_X8_laysPairs_42 ca, k_X8_laysPairs_43 ca, k_X8_laysPairs_44 ca, k_X8_laysPairs_45 ca, k_X8_laysPairs_48 ca, k_X8_laysPairs_49 ca, k_X8_laysPairs_50 ca, k_X8_laysPairs_52 ca, k_X8_laysPairs_53 ca, k_X8_laysPairs_54 ca, k_X8_laysPairs_55 ca, k_X8_laysPairs_56 ca, k_X8_laysPairs_58 ca, k_X8_laysPairs_59 ca, k_X8_laysPairs_60 ca, k_X8_laysPairs_61 ca, k_X8_laysPairs_64 ca, k_X8_laysPairs_67 ca, k_X8_laysPairs_68 ca, k_X8_laysPairs_69 ca, k_X8_laysPairs_70 ca, k_X8_laysPairs_73 ca, k_X8_laysPairs_76 ca, k_X8_laysPairs_77 ca, k_X8_laysPairs_80 ca, k_X8_laysPairs_81 ca, k_X8_laysPairs_82 ca, k_X8_laysPairs_83 ca, k_X8_laysPairs_86 ca, k_X8_laysPairs_89 ca, k_X8_laysPairs_90 ca, k_X8_laysPairs_91 ca, k_X8_laysPairs_92 ca, k_X8_laysPairs_95 ca, k_X8_laysPairs_98 ca, k_X8_laysPairs_99 ca, k_X8_laysPairs_100 ca, k_X8_laysPairs_101 ca, k_X8_laysPairs_104 ca, k_X8_laysPairs_107 ca, k_X8_laysPairs_108 ca, k_X8_laysPairs_111 ca, k_X8_laysPairs_112 ca, k_X8_laysPairs_114 ca, k_X8_laysPairs_115 ca, k_X8_laysPairs_116 ca, k_X8_laysPairs_119 ca, k_X8_laysPairs_120 ca, k_X8_laysPairs_123 ca, k_X8_laysPairs_124 ca, k_X8_laysPairs_126 ca, k_X8_laysPairs_127 ca, k_X8_laysPairs_128 ca, k_X8_laysPairs_131 ca, k_X8_laysPairs_132 ca, k_X8_laysPairs_133 ca, k_X8_laysPairs_135 ca, k_X8_laysPairs_136 ca, k_X8_laysPairs_137 ca, k_X8_laysPairs_138 ca, k_X8_laysPairs_139 ca, k_X8_laysPairs_141 ca, k_X8_laysPairs_142 ca, k_X8_laysPairs_144 ca, k_X8_laysPairs_145 ca, k_X8_laysPairs_146 ca, k_X8_laysPairs_148 ca, k_X8_laysPairs_149 ca, k_X8_laysPairs_150 ca, k_X8_laysPairs_151 ca, k_X8_laysPairs_152 ca, k_X8_laysPairs_154 ca, k_X8_laysPairs_155 ca, k_X8_laysPairs_157 ca, k_X8_laysPairs_158 ca, k_X8_laysPairs_161 ca, k_X8_laysPairs_164 ca, k_X8_laysPairs_167 ca, k_X8_laysPairs_170 ca, k_X8_laysPairs_173 ca, g1, hm, d7, y0, y1, e, a_1, nar0]
      try clear hF hF0 F
      exact k0
  have k0 := one 61 0 (by omega)
  rw [flo_0, up_id h7, nI_0] at k0
  refine goN go (stp [2]) 160 _ _ _ _ _ _ (fun F hF hF0 => ?_)
  simp only [hF, hF0, ite_not, i_push, i_iload, i_lload, i_aload, i_istore, i_astore, i_lstore, i_iinc, i_bin, i_dv, i_un, i_lbin, i_lsh, i_i2l, i_l2i, i_lcmp, i_dup, i_dup2, i_pop, i_if, i_icmp, i_goto, swG, i_sw, i_getf, i_puti, i_putz, i_putr, i_ald, i_lald, i_aald, i_ast, i_last, i_aast, i_alen, i_new, i_newi, i_newl, i_newq, i_oinit, i_ret, i_zret, i_lret, i_vret, catS, tk, rpush, isO, i_m1, i_m2, i_acopy, i_callV, i_callS, KRet, lget, lput, lputL, lcl0, isL, lv0, List.map_cons, List.map_nil, List.length_cons, List.length_nil, List.cons_append, List.nil_append, Nat.reduceAdd, Nat.reduceSub, Nat.reduceLeDiff, List.replicate_succ, List.replicate_zero, List.getElem?_cons_succ, List.getElem?_cons_zero, List.set_cons_succ, List.set_cons_zero, true_and, and_true, if_true, if_false, ↓reduceIte, Nat.le_refl, Value.category, va_up_app, eq_self, stp, Nat.reduceBEq, Bool.or_false, Bool.false_or, Bool.true_or, Bool.or_true, or_true, true_or, bx_uu, implies_true, true_implies, not_true, not_false_eq_true, false_implies, and_self, Nat.reduceLT, Int32.reduceAdd, Int32.reduceSub, Int32.reduceMul, Int32.reduceLE, Int32.reduceLT, Int32.reduceToNatClampNeg, va_rf_some, Bool.false_eq_true, k_X8_laysPairs_0 ca, k_X8_laysPairs_1 ca, k_X8_laysPairs_2 ca, k_X8_laysPairs_3 ca, k_X8_laysPairs_5 ca, k_X8_laysPairs_8 ca, k_X8_laysPairs_9 ca, k_X8_laysPairs_12 ca, k_X8_laysPairs_13 ca, k_X8_laysPairs_14 ca, k_X8_laysPairs_15 ca, k_X8_laysPairs_18 ca, k_X8_laysPairs_21 ca, k_X8_laysPairs_22 ca, k_X8_laysPairs_23 ca, k_X8_laysPairs_24 ca, k_X8_laysPairs_26 ca, k_X8_laysPairs_29 ca, k_X8_laysPairs_30 ca, k_X8_laysPairs_33 ca, k_X8_laysPairs_34 ca, k_X8_laysPairs_37 ca, k_X8_laysPairs_38 ca, k_X8_laysPairs_39 ca, k_X8_laysPairs_41 ca, k_X8_laysPairs_42 ca, k_X8_laysPairs_43 ca, k_X8_laysPairs_44 ca, k_X8_laysPairs_45 ca, k_X8_laysPairs_48 ca, k_X8_laysPairs_49 ca, k_X8_laysPairs_50 ca, k_X8_laysPairs_52 ca, k_X8_laysPairs_53 ca, k_X8_laysPairs_54 ca, k_X8_laysPairs_55 ca, k_X8_laysPairs_56 ca, k_X8_laysPairs_58 ca, k_X8_laysPairs_59 ca, k_X8_laysPairs_60 ca, k_X8_laysPairs_61 ca, k_X8_laysPairs_64 ca, k_X8_laysPairs_67 ca, k_X8_laysPairs_68 ca, k_X8_laysPairs_69 ca, k_X8_laysPairs_70 ca, k_X8_laysPairs_73 ca, k_X8_laysPairs_76 ca, k_X8_laysPairs_77 ca, k_X8_laysPairs_80 ca, k_X8_laysPairs_81 ca, k_X8_laysPairs_82 ca, k_X8_laysPairs_83 ca, k_X8_laysPairs_86 ca, k_X8_laysPairs_89 ca, k_X8_laysPairs_90 ca, k_X8_laysPairs_91 ca, k_X8_laysPairs_92 ca, k_X8_laysPairs_95 ca, k_X8_laysPairs_98 ca, k_X8_laysPairs_99 ca, k_X8_laysPairs_100 ca, k_X8_laysPairs_101 ca, k_X8_laysPairs_104 ca, k_X8_laysPairs_107 ca, k_X8_laysPairs_108 ca, k_X8_laysPairs_111 ca, k_X8_laysPairs_112 ca, k_X8_laysPairs_114 ca, k_X8_laysPairs_115 ca, k_X8_laysPairs_116 ca, k_X8_laysPairs_119 ca, k_X8_laysPairs_120 ca, k_X8_laysPairs_123 ca, k_X8_laysPairs_124 ca, k_X8_laysPairs_126 ca, k_X8_laysPairs_127 ca, k_X8_laysPairs_128 ca, k_X8_laysPairs_131 ca, k_X8_laysPairs_132 ca, k_X8_laysPairs_133 ca, k_X8_laysPairs_135 ca, k_X8_laysPairs_136 ca, k_X8_laysPairs_137 ca, k_X8_laysPairs_138 ca, k_X8_laysPairs_139 ca, k_X8_laysPairs_141 ca, k_X8_laysPairs_142 ca, k_X8_laysPairs_144 ca, k_X8_laysPairs_145 ca, k_X8_laysPairs_146 ca, k_X8_laysPairs_148 ca, k_X8_laysPairs_149 ca, k_X8_laysPairs_150 ca, k_X8_laysPairs_151 ca, k_X8_laysPairs_152 ca, k_X8_laysPairs_154 ca, k_X8_laysPairs_155 ca, k_X8_laysPairs_157 ca, k_X8_laysPairs_158 ca, k_X8_laysPairs_161 ca, k_X8_laysPairs_164 ca, k_X8_laysPairs_167 ca, k_X8_laysPairs_170 ca, k_X8_laysPairs_173 ca]
  try clear hF hF0 F
  exact k0
