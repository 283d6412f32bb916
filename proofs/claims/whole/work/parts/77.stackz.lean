/-! bits (the kit's rows to paste), whole numbers as Int32s -/
def bt (x : Int32) (i : Nat) : Bool := x.toBitVec.getLsbD i
theorem b_or (x y : Int32) (i : Nat) : bt (x ||| y) i = (bt x i || bt y i) := by unfold bt; rw [Int32.toBitVec_or, BitVec.getLsbD_or]
theorem b_and (x y : Int32) (i : Nat) : bt (x &&& y) i = (bt x i && bt y i) := by unfold bt; rw [Int32.toBitVec_and, BitVec.getLsbD_and]
theorem b_big {x : Int32} {i : Nat} (h : 32 ≤ i) : bt x i = false := BitVec.getLsbD_of_ge _ _ h
theorem b_0 (i : Nat) : bt 0 i = false := BitVec.getLsbD_zero
theorem s_l : ∀ n, n < 32 → ((nI n &&& 31).toBitVec.smod 32).toNat = n := by decide +kernel
theorem b_shl (n : Nat) (hn : n < 32) (x : Int32) {i : Nat} (hi : i < 32) : bt (x <<< (nI n &&& 31)) i = (decide (n ≤ i) && bt x (i - n)) := by
  unfold bt
  rw [Int32.toBitVec_shiftLeft]
  show (x.toBitVec <<< ((nI n &&& 31).toBitVec.smod 32).toNat).getLsbD i = _
  rw [s_l n hn, BitVec.getLsbD_shiftLeft]
  rcases Nat.lt_or_ge i n with h | h
  · simp [h, Nat.not_le.mpr h]
  · simp [hi, h, Nat.not_lt.mpr h]
theorem b_sshr (n : Nat) (hn : n < 32) (x : Int32) {i : Nat} (hi : i < 32) : bt (x >>> (nI n &&& 31)) i = if n + i < 32 then bt x (n + i) else bt x 31 := by
  unfold bt
  rw [Int32.toBitVec_shiftRight]
  show (x.toBitVec.sshiftRight ((nI n &&& 31).toBitVec.smod 32).toNat).getLsbD i = _
  rw [s_l n hn, BitVec.getLsbD_sshiftRight, BitVec.msb_eq_getLsbD_last]
  simp [hi]
def zI (z : Int) : Int32 := Int32.ofInt z
theorem zI_n (n : Nat) : nI n = zI n := rfl
theorem zI_add (x y : Int) : zI x + zI y = zI (x + y) := (Int32.ofInt_add x y).symm
theorem zI_sub (x y : Int) : zI x - zI y = zI (x - y) := (Int32.ofInt_sub x y).symm
theorem zI_mul (x y : Int) : zI x * zI y = zI (x * y) := (Int32.ofInt_mul x y).symm
theorem zI_t {z : Int} (h1 : -2147483648 ≤ z) (h2 : z < 2147483648) : (zI z).toInt = z := by
  unfold zI
  rw [Int32.toInt_ofInt]
  have e : Int32.size = 4294967296 := rfl
  rw [e]
  exact Int.bmod_eq_of_le (by omega) (by omega)
theorem zI_of (x : Int32) : x = zI x.toInt := (Int32.ofInt_toInt x).symm
theorem zI_le {x y : Int} (hx : -2147483648 ≤ x ∧ x < 2147483648) (hy : -2147483648 ≤ y ∧ y < 2147483648) : (zI x ≤ zI y) = (x ≤ y) := by rw [Int32.le_iff_toInt_le, zI_t hx.1 hx.2, zI_t hy.1 hy.2]
theorem zI_lt {x y : Int} (hx : -2147483648 ≤ x ∧ x < 2147483648) (hy : -2147483648 ≤ y ∧ y < 2147483648) : (zI x < zI y) = (x < y) := by rw [Int32.lt_iff_toInt_lt, zI_t hx.1 hx.2, zI_t hy.1 hy.2]
theorem zI_eq {x y : Int} (hx : -2147483648 ≤ x ∧ x < 2147483648) (hy : -2147483648 ≤ y ∧ y < 2147483648) : (zI x = zI y) = (x = y) := propext ⟨fun h => by rw [← zI_t hx.1 hx.2, h, zI_t hy.1 hy.2], fun h => by rw [h]⟩
theorem zI_abs {z : Int} (h1 : -2147483647 ≤ z) (h2 : z < 2147483648) : (if (0 : Int32) ≤ zI z then zI z else 0 - zI z) = nI z.natAbs := by
  have e : ((0 : Int32) ≤ zI z) = ((0 : Int) ≤ z) := zI_le (x := 0) (by omega) (by omega)
  rw [zI_n]
  by_cases q : 0 ≤ z
  · rw [if_pos (e ▸ q)]; exact congrArg zI (by omega)
  · rw [if_neg (e ▸ q), show (0 : Int32) = zI 0 from rfl, zI_sub]; exact congrArg zI (by omega)
/-! what so many parts of a length in all can bend by -/
def dz (Nf : Nat → Nat) (p : Nat) : Int := (Nf (p / 6) : Int) - (Nf (p % 6) : Int)
def canZ (Nf : Nat → Nat) : Nat → Int → Int → Prop
  | 0, T, b => T = 0 ∧ b = 0
  | P + 1, T, b => ∃ l p : Nat, 1 ≤ l ∧ l ≤ 9 ∧ p < 36 ∧ canZ Nf P (T - l) (b - l * dz Nf p)
def Nm (Nf : Nat → Nat) : Prop := ∀ j, j < 6 → Nf j ≤ 30
theorem dz_sym {Nf : Nat → Nat} {p : Nat} (hp : p < 36) : ∃ q, q < 36 ∧ dz Nf q = - dz Nf p := by
  refine ⟨6 * (p % 6) + p / 6, by omega, ?_⟩
  unfold dz
  rw [show (6 * (p % 6) + p / 6) / 6 = p % 6 by omega, show (6 * (p % 6) + p / 6) % 6 = p / 6 by omega]
  omega
theorem dz_bd {Nf : Nat → Nat} (hN : Nm Nf) {p : Nat} (hp : p < 36) : -30 ≤ dz Nf p ∧ dz Nf p ≤ 30 := by
  have h1 := hN (p / 6) (by omega)
  have h2 := hN (p % 6) (by omega)
  unfold dz
  omega
theorem ld_bd {l : Nat} {x : Int} (hl : l ≤ 9) (h : -30 ≤ x ∧ x ≤ 30) : -270 ≤ l * x ∧ l * x ≤ 270 := by
  have hl9 : l = 0 ∨ l = 1 ∨ l = 2 ∨ l = 3 ∨ l = 4 ∨ l = 5 ∨ l = 6 ∨ l = 7 ∨ l = 8 ∨ l = 9 := by omega
  rcases hl9 with rfl | rfl | rfl | rfl | rfl | rfl | rfl | rfl | rfl | rfl <;> omega
theorem canZ_neg {Nf : Nat → Nat} : ∀ {P : Nat} {T b : Int}, canZ Nf P T b → canZ Nf P T (-b)
  | 0, T, b, h => ⟨h.1, by rw [h.2]; rfl⟩
  | P + 1, T, b, ⟨l, p, h1, h2, h3, h4⟩ => by
    obtain ⟨q, hq, e⟩ := dz_sym (Nf := Nf) h3
    refine ⟨l, q, h1, h2, hq, ?_⟩
    have := canZ_neg h4
    rw [e, Int.mul_neg]
    rw [show -b - -(↑l * dz Nf p) = -(b - ↑l * dz Nf p) by omega]
    exact this
theorem canZ_negi {Nf : Nat → Nat} {P : Nat} {T b : Int} : canZ Nf P T (-b) ↔ canZ Nf P T b := ⟨fun h => by have := canZ_neg h; rw [Int.neg_neg] at this; exact this, canZ_neg⟩
theorem canZ_bd {Nf : Nat → Nat} (hN : Nm Nf) : ∀ {P : Nat} {T b : Int}, canZ Nf P T b → (P : Int) ≤ T ∧ T ≤ 9 * P ∧ -270 * P ≤ b ∧ b ≤ 270 * P
  | 0, T, b, h => by rw [h.1, h.2]; omega
  | P + 1, T, b, ⟨l, p, h1, h2, h3, h4⟩ => by
    have := canZ_bd hN h4
    have h5 := ld_bd h2 (dz_bd hN h3)
    generalize (l : Int) * dz Nf p = y at *
    omega
theorem canZ_abs {Nf : Nat → Nat} {P : Nat} {T b : Int} : canZ Nf P T (b.natAbs : Int) ↔ canZ Nf P T b := by
  by_cases q : 0 ≤ b
  · rw [show (b.natAbs : Int) = b by omega]
  · rw [show (b.natAbs : Int) = -b by omega]; exact canZ_negi
def Lens (Nf : Nat → Nat) (L : Int32) (P : Nat) (b : Int) : Prop := ∀ T : Nat, T < 32 → (bt L T = true ↔ canZ Nf P T b)
theorem Lens_0 {Nf : Nat → Nat} {P : Nat} {b : Int} (h : ∀ T : Int, ¬ canZ Nf P T b) : Lens Nf 0 P b := fun T _ => ⟨fun z => absurd z (by rw [b_0]; decide), fun z => absurd z (h T)⟩
theorem Lens_abs {Nf : Nat → Nat} {L : Int32} {P : Nat} {b : Int} (h : Lens Nf L P (b.natAbs : Int)) : Lens Nf L P b := fun T hT => (h T hT).trans canZ_abs
/-! StackFinder: difference, lengthsByOne, lengthsByTwo -/
def eSF (nx : Nat) (tm : Int32) (pp : Nat) (pc : Int32) (ox tx : Nat) : va_E := .inr (3, [.ref nx, .int tm, .ref pp, .int pc, .ref ox, .ref tx])
def NumA (ca : Nat → ClassId) (h : PH) (nx : Nat) (Nf : Nat → Nat) : Prop := ∃ nf, h nx = some (.inl (ca 0, 6, .inl nf)) ∧ ∀ j, j < 6 → nf j = nI (Nf j)
def PO (Nf : Nat → Nat) (pf : Nat → Int32) (pc : Nat) (pr : Nat → Nat) : Prop := pc ≤ 36 ∧ (∀ i, i < pc → pf i = nI (pr i) ∧ pr i < 36) ∧ (∀ i j, i < j → j < pc → pr i < pr j) ∧ (∀ p, p < 36 → ∃ i, i < pc ∧ dz Nf (pr i) = dz Nf p ∧ pr i ≤ p)
def PairsA (ca : Nat → ClassId) (h : PH) (pp pc : Nat) (Nf pr : Nat → Nat) : Prop := ∃ pf, h pp = some (.inl (ca 0, 36, .inl pf)) ∧ PO Nf pf pc pr
def OneA (ca : Nat → ClassId) (h : PH) (ox : Nat) (Nf : Nat → Nat) : Prop := ∃ bo, h ox = some (.inl (ca 0, 271, .inl bo)) ∧ ∀ z : Nat, z ≤ 270 → Lens Nf (bo z) 1 z
def TwoA (ca : Nat → ClassId) (h : PH) (tx : Nat) (Nf : Nat → Nat) : Prop := ∃ bo, h tx = some (.inl (ca 0, 541, .inl bo)) ∧ ∀ z : Nat, z ≤ 540 → Lens Nf (bo z) 2 z
def sp_X3_difference (ca : Nat → ClassId) : SPEC := fun av h post => ∃ x5 nx tm pp pc ox tx Nf p, p < 36 ∧ av = [.ref x5, .int (nI p)] ∧ h x5 = some (eSF nx tm pp pc ox tx) ∧ NumA ca h nx Nf ∧ post (some (.int (zI (dz Nf p)))) h
def k_X3_difference (ca : Nat → ClassId) : Nat → IT := fun pc => lk pc [(0, i_aload 0 1),
  (1, i_getf 3 0 4),
  (4, i_iload 1 5),
  (5, i_push (.int 6) 7),
  (7, i_dv (fun x y => x / y) 8),
  (8, i_ald (ca 0) 9),
  (9, i_aload 0 10),
  (10, i_getf 3 0 13),
  (13, i_iload 1 14),
  (14, i_push (.int 6) 16),
  (16, i_dv (fun x y => x - x / y * y) 17),
  (17, i_ald (ca 0) 18),
  (18, i_bin (fun x y => x - y) 19),
  (19, i_ret)]
set_option maxRecDepth 20000 in
theorem t_X3_difference : Tb k_X3_difference yX3_difference cX3_difference 2 (some .int) 0 0 0 := by
  intro l D ca A p e s m args below meth c post X
  unfold k_X3_difference
  refine snd_cons (snd_aload_n X dX3_difference_0 rfl) ?_
  refine snd_cons (snd_getf X Fk3 0 (by decide) w_234 dX3_difference_1) ?_
  refine snd_cons (snd_iload_n X dX3_difference_4 rfl) ?_
  refine snd_cons (snd_bipush X dX3_difference_5 (by decide)) ?_
  refine snd_cons (snd_idiv X dX3_difference_7) ?_
  refine snd_cons (snd_iaload X dX3_difference_8) ?_
  refine snd_cons (snd_aload_n X dX3_difference_9 rfl) ?_
  refine snd_cons (snd_getf X Fk3 0 (by decide) w_234 dX3_difference_10) ?_
  refine snd_cons (snd_iload_n X dX3_difference_13 rfl) ?_
  refine snd_cons (snd_bipush X dX3_difference_14 (by decide)) ?_
  refine snd_cons (snd_irem X dX3_difference_16) ?_
  refine snd_cons (snd_iaload X dX3_difference_17) ?_
  refine snd_cons (snd_isub X dX3_difference_18) ?_
  refine snd_cons (snd_ret X dX3_difference_19) ?_
  exact snd_nil
theorem k_X3_difference_0 (ca : Nat → ClassId) : k_X3_difference ca 0 = i_aload 0 1 := rfl
theorem k_X3_difference_1 (ca : Nat → ClassId) : k_X3_difference ca 1 = i_getf 3 0 4 := rfl
theorem k_X3_difference_4 (ca : Nat → ClassId) : k_X3_difference ca 4 = i_iload 1 5 := rfl
theorem k_X3_difference_5 (ca : Nat → ClassId) : k_X3_difference ca 5 = i_push (.int 6) 7 := rfl
theorem k_X3_difference_7 (ca : Nat → ClassId) : k_X3_difference ca 7 = i_dv (fun x y => x / y) 8 := rfl
theorem k_X3_difference_8 (ca : Nat → ClassId) : k_X3_difference ca 8 = i_ald (ca 0) 9 := rfl
theorem k_X3_difference_9 (ca : Nat → ClassId) : k_X3_difference ca 9 = i_aload 0 10 := rfl
theorem k_X3_difference_10 (ca : Nat → ClassId) : k_X3_difference ca 10 = i_getf 3 0 13 := rfl
theorem k_X3_difference_13 (ca : Nat → ClassId) : k_X3_difference ca 13 = i_iload 1 14 := rfl
theorem k_X3_difference_14 (ca : Nat → ClassId) : k_X3_difference ca 14 = i_push (.int 6) 16 := rfl
theorem k_X3_difference_16 (ca : Nat → ClassId) : k_X3_difference ca 16 = i_dv (fun x y => x - x / y * y) 17 := rfl
theorem k_X3_difference_17 (ca : Nat → ClassId) : k_X3_difference ca 17 = i_ald (ca 0) 18 := rfl
theorem k_X3_difference_18 (ca : Nat → ClassId) : k_X3_difference ca 18 = i_bin (fun x y => x - y) 19 := rfl
theorem k_X3_difference_19 (ca : Nat → ClassId) : k_X3_difference ca 19 = i_ret := rfl
set_option maxHeartbeats 4000000 in
set_option maxRecDepth 20000 in
theorem ok_X3_difference (l : Launch) (D : va_G) (ca : Nat → ClassId) : OkAll l D ca yX3_difference cX3_difference 2 (some .int) 0 0 0 (sp_X3_difference ca) := by
  intro av h post hs
  obtain ⟨x5, nx, tm, pp, pc, ox, tx, Nf, p, hp, rfl, e0, ⟨nf, e1, e2⟩, hs⟩ := hs
  unfold eSF at e0
  have r6 := rem6 (k := p) (by omega)
  have r6b := rem6b (k := p) (by omega)
  have d6 := div6 (k := p) (by omega)
  have v1 : vp_in (nI (p / 6)) 6 := vp_in_nI (by omega) (by decide)
  have v2 : vp_in (nI (p % 6)) 6 := vp_in_nI (by omega) (by decide)
  have x1 : (nI (p / 6)).toNatClampNeg = p / 6 := nI_clamp (by omega)
  have x2 : (nI (p % 6)).toNatClampNeg = p % 6 := nI_clamp (by omega)
  have y1 := e2 (p / 6) (by omega)
  have y2 := e2 (p % 6) (by omega)
  have ez : nI (Nf (p / 6)) - nI (Nf (p % 6)) = zI (dz Nf p) := by rw [zI_n, zI_n, zI_sub]; rfl
  refine okM_of t_X3_difference (by decide +kernel) (c1_ref (c1_int c1_nil)) (Nat.le_of_ble_eq_true rfl) ?_
  intro K go
  refine goN go (stp []) 160 _ _ _ _ _ _ (fun F hF hF0 => ?_)
  simp only [hF, hF0, ite_not, i_push, i_iload, i_lload, i_aload, i_istore, i_astore, i_lstore, i_iinc, i_bin, i_dv, i_un, i_lbin, i_lsh, i_i2l, i_l2i, i_lcmp, i_dup, i_dup2, i_pop, i_if, i_icmp, i_goto, swG, i_sw, i_getf, i_puti, i_putz, i_putr, i_ald, i_lald, i_aald, i_ast, i_last, i_aast, i_alen, i_new, i_newi, i_newl, i_newq, i_oinit, i_ret, i_zret, i_lret, i_vret, catS, tk, rpush, isO, i_m1, i_m2, i_acopy, i_callV, i_callS, KRet, lget, lput, lputL, lcl0, isL, lv0, List.map_cons, List.map_nil, List.length_cons, List.length_nil, List.cons_append, List.nil_append, Nat.reduceAdd, Nat.reduceSub, Nat.reduceLeDiff, List.replicate_succ, List.replicate_zero, List.getElem?_cons_succ, List.getElem?_cons_zero, List.set_cons_succ, List.set_cons_zero, true_and, and_true, if_true, if_false, ↓reduceIte, Nat.le_refl, Value.category, va_up_app, eq_self, stp, Nat.reduceBEq, Bool.or_false, Bool.false_or, Bool.true_or, Bool.or_true, or_true, true_or, bx_uu, implies_true, true_implies, not_true, not_false_eq_true, false_implies, and_self, Nat.reduceLT, Int32.reduceAdd, Int32.reduceSub, Int32.reduceMul, Int32.reduceLE, Int32.reduceLT, Int32.reduceToNatClampNeg, va_rf_some, Bool.false_eq_true, k_X3_difference_0 ca, k_X3_difference_1 ca, k_X3_difference_4 ca, k_X3_difference_5 ca, k_X3_difference_7 ca, k_X3_difference_8 ca, k_X3_difference_9 ca, k_X3_difference_10 ca, k_X3_difference_13 ca, k_X3_difference_14 ca, k_X3_difference_16 ca, k_X3_difference_17 ca, k_X3_difference_18 ca, k_X3_difference_19 ca, e0, e1, r6, r6b, d6, n60, v1, v2, x1, x2, y1, y2, ez]
  try clear hF hF0 F
  exact hs
def sp_X3_lengthsByOne (ca : Nat → ClassId) : SPEC := fun av h post => ∃ x5 nx tm pp pc ox tx Nf b, -100000 ≤ b ∧ b ≤ 100000 ∧ av = [.ref x5, .int (zI b)] ∧ h x5 = some (eSF nx tm pp pc ox tx) ∧ Nm Nf ∧ OneA ca h ox Nf ∧ ∀ L, Lens Nf L 1 b → post (some (.int L)) h
def k_X3_lengthsByOne (ca : Nat → ClassId) : Nat → IT := fun pc => lk pc [(0, i_iload 1 1),
  (1, i_m1 (fun x => if 0 ≤ x then x else 0 - x) 0 0 4),
  (4, i_istore 2 5),
  (5, i_iload 2 6),
  (6, i_push (.int 270) 9),
  (9, i_icmp (fun x y => y < x) 21 12),
  (12, i_aload 0 13),
  (13, i_getf 3 4 16),
  (16, i_iload 2 17),
  (17, i_ald (ca 0) 18),
  (18, i_goto 22),
  (21, i_push (.int 0) 22),
  (22, i_ret)]
set_option maxRecDepth 20000 in
theorem t_X3_lengthsByOne : Tb k_X3_lengthsByOne yX3_lengthsByOne cX3_lengthsByOne 3 (some .int) 1 0 0 := by
  intro l D ca A p e s m args below meth c post X
  unfold k_X3_lengthsByOne
  refine snd_cons (snd_iload_n X dX3_lengthsByOne_0 rfl) ?_
  refine snd_cons (snd_mabs X rfl rfl w_534 w_535 w_11 w_536 (by decide) (by decide) dX3_lengthsByOne_1) ?_
  refine snd_cons (snd_istore_n X dX3_lengthsByOne_4 rfl (by decide)) ?_
  refine snd_cons (snd_iload_n X dX3_lengthsByOne_5 rfl) ?_
  refine snd_cons (snd_sipush X dX3_lengthsByOne_6 (by decide)) ?_
  refine snd_cons (snd_icmp_gt X dX3_lengthsByOne_9 (by decide)) ?_
  refine snd_cons (snd_aload_n X dX3_lengthsByOne_12 rfl) ?_
  refine snd_cons (snd_getf X Fk3 4 (by decide) w_238 dX3_lengthsByOne_13) ?_
  refine snd_cons (snd_iload_n X dX3_lengthsByOne_16 rfl) ?_
  refine snd_cons (snd_iaload X dX3_lengthsByOne_17) ?_
  refine snd_cons (snd_goto X dX3_lengthsByOne_18 (by decide)) ?_
  refine snd_cons (snd_iconst X dX3_lengthsByOne_21 (by decide)) ?_
  refine snd_cons (snd_ret X dX3_lengthsByOne_22) ?_
  exact snd_nil
theorem k_X3_lengthsByOne_0 (ca : Nat → ClassId) : k_X3_lengthsByOne ca 0 = i_iload 1 1 := rfl
theorem k_X3_lengthsByOne_1 (ca : Nat → ClassId) : k_X3_lengthsByOne ca 1 = i_m1 (fun x => if 0 ≤ x then x else 0 - x) 0 0 4 := rfl
theorem k_X3_lengthsByOne_4 (ca : Nat → ClassId) : k_X3_lengthsByOne ca 4 = i_istore 2 5 := rfl
theorem k_X3_lengthsByOne_5 (ca : Nat → ClassId) : k_X3_lengthsByOne ca 5 = i_iload 2 6 := rfl
theorem k_X3_lengthsByOne_6 (ca : Nat → ClassId) : k_X3_lengthsByOne ca 6 = i_push (.int 270) 9 := rfl
theorem k_X3_lengthsByOne_9 (ca : Nat → ClassId) : k_X3_lengthsByOne ca 9 = i_icmp (fun x y => y < x) 21 12 := rfl
theorem k_X3_lengthsByOne_12 (ca : Nat → ClassId) : k_X3_lengthsByOne ca 12 = i_aload 0 13 := rfl
theorem k_X3_lengthsByOne_13 (ca : Nat → ClassId) : k_X3_lengthsByOne ca 13 = i_getf 3 4 16 := rfl
theorem k_X3_lengthsByOne_16 (ca : Nat → ClassId) : k_X3_lengthsByOne ca 16 = i_iload 2 17 := rfl
theorem k_X3_lengthsByOne_17 (ca : Nat → ClassId) : k_X3_lengthsByOne ca 17 = i_ald (ca 0) 18 := rfl
theorem k_X3_lengthsByOne_18 (ca : Nat → ClassId) : k_X3_lengthsByOne ca 18 = i_goto 22 := rfl
theorem k_X3_lengthsByOne_21 (ca : Nat → ClassId) : k_X3_lengthsByOne ca 21 = i_push (.int 0) 22 := rfl
theorem k_X3_lengthsByOne_22 (ca : Nat → ClassId) : k_X3_lengthsByOne ca 22 = i_ret := rfl
set_option maxHeartbeats 4000000 in
set_option maxRecDepth 20000 in
theorem ok_X3_lengthsByOne (l : Launch) (D : va_G) (ca : Nat → ClassId) : OkAll l D ca yX3_lengthsByOne cX3_lengthsByOne 3 (some .int) 1 0 0 (sp_X3_lengthsByOne ca) := by
  intro av h post hs
  obtain ⟨x5, nx, tm, pp, pc, ox, tx, Nf, b, hb1, hb2, rfl, e0, hN, ⟨bo, e1, e2⟩, hs⟩ := hs
  unfold eSF at e0
  have ea := zI_abs (z := b) (by omega) (by omega)
  have vn : (nI b.natAbs).toNatClampNeg = b.natAbs := nI_clamp (by omega)
  refine okM_of t_X3_lengthsByOne (by decide +kernel) (c1_ref (c1_int c1_nil)) (Nat.le_of_ble_eq_true rfl) ?_
  intro K go
  by_cases q : b.natAbs ≤ 270
  · have k0 := hs _ (Lens_abs (e2 _ q))
    have g1 : ((270 : Int32) < nI b.natAbs) = False := eq_false (nI_nlt (a := 270) (by omega) (by decide))
    have v0 : vp_in (nI b.natAbs) 271 := vp_in_nI (by omega) (by decide)
    refine goN go (stp []) 160 _ _ _ _ _ _ (fun F hF hF0 => ?_)
    simp only [hF, hF0, ite_not, i_push, i_iload, i_lload, i_aload, i_istore, i_astore, i_lstore, i_iinc, i_bin, i_dv, i_un, i_lbin, i_lsh, i_i2l, i_l2i, i_lcmp, i_dup, i_dup2, i_pop, i_if, i_icmp, i_goto, swG, i_sw, i_getf, i_puti, i_putz, i_putr, i_ald, i_lald, i_aald, i_ast, i_last, i_aast, i_alen, i_new, i_newi, i_newl, i_newq, i_oinit, i_ret, i_zret, i_lret, i_vret, catS, tk, rpush, isO, i_m1, i_m2, i_acopy, i_callV, i_callS, KRet, lget, lput, lputL, lcl0, isL, lv0, List.map_cons, List.map_nil, List.length_cons, List.length_nil, List.cons_append, List.nil_append, Nat.reduceAdd, Nat.reduceSub, Nat.reduceLeDiff, List.replicate_succ, List.replicate_zero, List.getElem?_cons_succ, List.getElem?_cons_zero, List.set_cons_succ, List.set_cons_zero, true_and, and_true, if_true, if_false, ↓reduceIte, Nat.le_refl, Value.category, va_up_app, eq_self, stp, Nat.reduceBEq, Bool.or_false, Bool.false_or, Bool.true_or, Bool.or_true, or_true, true_or, bx_uu, implies_true, true_implies, not_true, not_false_eq_true, false_implies, and_self, Nat.reduceLT, Int32.reduceAdd, Int32.reduceSub, Int32.reduceMul, Int32.reduceLE, Int32.reduceLT, Int32.reduceToNatClampNeg, va_rf_some, Bool.false_eq_true, k_X3_lengthsByOne_0 ca, k_X3_lengthsByOne_1 ca, k_X3_lengthsByOne_4 ca, k_X3_lengthsByOne_5 ca, k_X3_lengthsByOne_6 ca, k_X3_lengthsByOne_9 ca, k_X3_lengthsByOne_12 ca, k_X3_lengthsByOne_13 ca, k_X3_lengthsByOne_16 ca, k_X3_lengthsByOne_17 ca, k_X3_lengthsByOne_18 ca, k_X3_lengthsByOne_21 ca, k_X3_lengthsByOne_22 ca, e0, e1, ea, g1, v0, vn]
    try clear hF hF0 F
    exact k0
  · have k0 := hs 0 (Lens_0 (fun T hT => by have := canZ_bd hN hT; omega))
    have g1 : ((270 : Int32) < nI b.natAbs) = True := eq_true (nI_lt (a := 270) (by omega) (by omega))
    refine goN go (stp []) 160 _ _ _ _ _ _ (fun F hF hF0 => ?_)
    simp only [hF, hF0, ite_not, i_push, i_iload, i_lload, i_aload, i_istore, i_astore, i_lstore, i_iinc, i_bin, i_dv, i_un, i_lbin, i_lsh, i_i2l, i_l2i, i_lcmp, i_dup, i_dup2, i_pop, i_if, i_icmp, i_goto, swG, i_sw, i_getf, i_puti, i_putz, i_putr, i_ald, i_lald, i_aald, i_ast, i_last, i_aast, i_alen, i_new, i_newi, i_newl, i_newq, i_oinit, i_ret, i_zret, i_lret, i_vret, catS, tk, rpush, isO, i_m1, i_m2, i_acopy, i_callV, i_callS, KRet, lget, lput, lputL, lcl0, isL, lv0, List.map_cons, List.map_nil, List.length_cons, List.length_nil, List.cons_append, List.nil_append, Nat.reduceAdd, Nat.reduceSub, Nat.reduceLeDiff, List.replicate_succ, List.replicate_zero, List.getElem?_cons_succ, List.getElem?_cons_zero, List.set_cons_succ, List.set_cons_zero, true_and, and_true, if_true, if_false, ↓reduceIte, Nat.le_refl, Value.category, va_up_app, eq_self, stp, Nat.reduceBEq, Bool.or_false, Bool.false_or, Bool.true_or, Bool.or_true, or_true, true_or, bx_uu, implies_true, true_implies, not_true, not_false_eq_true, false_implies, and_self, Nat.reduceLT, Int32.reduceAdd, Int32.reduceSub, Int32.reduceMul, Int32.reduceLE, Int32.reduceLT, Int32.reduceToNatClampNeg, va_rf_some, Bool.false_eq_true, k_X3_lengthsByOne_0 ca, k_X3_lengthsByOne_1 ca, k_X3_lengthsByOne_4 ca, k_X3_lengthsByOne_5 ca, k_X3_lengthsByOne_6 ca, k_X3_lengthsByOne_9 ca, k_X3_lengthsByOne_12 ca, k_X3_lengthsByOne_13 ca, k_X3_lengthsByOne_16 ca, k_X3_lengthsByOne_17 ca, k_X3_lengthsByOne_18 ca, k_X3_lengthsByOne_21 ca, k_X3_lengthsByOne_22 ca, e0, ea, g1]
    try clear hF hF0 F
    exact k0
def sp_X3_lengthsByTwo (ca : Nat → ClassId) : SPEC := fun av h post => ∃ x5 nx tm pp pc ox tx Nf b, -100000 ≤ b ∧ b ≤ 100000 ∧ av = [.ref x5, .int (zI b)] ∧ h x5 = some (eSF nx tm pp pc ox tx) ∧ Nm Nf ∧ TwoA ca h tx Nf ∧ ∀ L, Lens Nf L 2 b → post (some (.int L)) h
def k_X3_lengthsByTwo (ca : Nat → ClassId) : Nat → IT := fun pc => lk pc [(0, i_iload 1 1),
  (1, i_m1 (fun x => if 0 ≤ x then x else 0 - x) 0 0 4),
  (4, i_istore 2 5),
  (5, i_iload 2 6),
  (6, i_push (.int 540) 9),
  (9, i_icmp (fun x y => y < x) 21 12),
  (12, i_aload 0 13),
  (13, i_getf 3 5 16),
  (16, i_iload 2 17),
  (17, i_ald (ca 0) 18),
  (18, i_goto 22),
  (21, i_push (.int 0) 22),
  (22, i_ret)]
set_option maxRecDepth 20000 in
theorem t_X3_lengthsByTwo : Tb k_X3_lengthsByTwo yX3_lengthsByTwo cX3_lengthsByTwo 3 (some .int) 1 0 0 := by
  intro l D ca A p e s m args below meth c post X
  unfold k_X3_lengthsByTwo
  refine snd_cons (snd_iload_n X dX3_lengthsByTwo_0 rfl) ?_
  refine snd_cons (snd_mabs X rfl rfl w_534 w_535 w_11 w_536 (by decide) (by decide) dX3_lengthsByTwo_1) ?_
  refine snd_cons (snd_istore_n X dX3_lengthsByTwo_4 rfl (by decide)) ?_
  refine snd_cons (snd_iload_n X dX3_lengthsByTwo_5 rfl) ?_
  refine snd_cons (snd_sipush X dX3_lengthsByTwo_6 (by decide)) ?_
  refine snd_cons (snd_icmp_gt X dX3_lengthsByTwo_9 (by decide)) ?_
  refine snd_cons (snd_aload_n X dX3_lengthsByTwo_12 rfl) ?_
  refine snd_cons (snd_getf X Fk3 5 (by decide) w_239 dX3_lengthsByTwo_13) ?_
  refine snd_cons (snd_iload_n X dX3_lengthsByTwo_16 rfl) ?_
  refine snd_cons (snd_iaload X dX3_lengthsByTwo_17) ?_
  refine snd_cons (snd_goto X dX3_lengthsByTwo_18 (by decide)) ?_
  refine snd_cons (snd_iconst X dX3_lengthsByTwo_21 (by decide)) ?_
  refine snd_cons (snd_ret X dX3_lengthsByTwo_22) ?_
  exact snd_nil
theorem k_X3_lengthsByTwo_0 (ca : Nat → ClassId) : k_X3_lengthsByTwo ca 0 = i_iload 1 1 := rfl
theorem k_X3_lengthsByTwo_1 (ca : Nat → ClassId) : k_X3_lengthsByTwo ca 1 = i_m1 (fun x => if 0 ≤ x then x else 0 - x) 0 0 4 := rfl
theorem k_X3_lengthsByTwo_4 (ca : Nat → ClassId) : k_X3_lengthsByTwo ca 4 = i_istore 2 5 := rfl
theorem k_X3_lengthsByTwo_5 (ca : Nat → ClassId) : k_X3_lengthsByTwo ca 5 = i_iload 2 6 := rfl
theorem k_X3_lengthsByTwo_6 (ca : Nat → ClassId) : k_X3_lengthsByTwo ca 6 = i_push (.int 540) 9 := rfl
theorem k_X3_lengthsByTwo_9 (ca : Nat → ClassId) : k_X3_lengthsByTwo ca 9 = i_icmp (fun x y => y < x) 21 12 := rfl
theorem k_X3_lengthsByTwo_12 (ca : Nat → ClassId) : k_X3_lengthsByTwo ca 12 = i_aload 0 13 := rfl
theorem k_X3_lengthsByTwo_13 (ca : Nat → ClassId) : k_X3_lengthsByTwo ca 13 = i_getf 3 5 16 := rfl
theorem k_X3_lengthsByTwo_16 (ca : Nat → ClassId) : k_X3_lengthsByTwo ca 16 = i_iload 2 17 := rfl
theorem k_X3_lengthsByTwo_17 (ca : Nat → ClassId) : k_X3_lengthsByTwo ca 17 = i_ald (ca 0) 18 := rfl
theorem k_X3_lengthsByTwo_18 (ca : Nat → ClassId) : k_X3_lengthsByTwo ca 18 = i_goto 22 := rfl
theorem k_X3_lengthsByTwo_21 (ca : Nat → ClassId) : k_X3_lengthsByTwo ca 21 = i_push (.int 0) 22 := rfl
theorem k_X3_lengthsByTwo_22 (ca : Nat → ClassId) : k_X3_lengthsByTwo ca 22 = i_ret := rfl
set_option maxHeartbeats 4000000 in
set_option maxRecDepth 20000 in
theorem ok_X3_lengthsByTwo (l : Launch) (D : va_G) (ca : Nat → ClassId) : OkAll l D ca yX3_lengthsByTwo cX3_lengthsByTwo 3 (some .int) 1 0 0 (sp_X3_lengthsByTwo ca) := by
  intro av h post hs
  obtain ⟨x5, nx, tm, pp, pc, ox, tx, Nf, b, hb1, hb2, rfl, e0, hN, ⟨bo, e1, e2⟩, hs⟩ := hs
  unfold eSF at e0
  have ea := zI_abs (z := b) (by omega) (by omega)
  have vn : (nI b.natAbs).toNatClampNeg = b.natAbs := nI_clamp (by omega)
  refine okM_of t_X3_lengthsByTwo (by decide +kernel) (c1_ref (c1_int c1_nil)) (Nat.le_of_ble_eq_true rfl) ?_
  intro K go
  by_cases q : b.natAbs ≤ 540
  · have k0 := hs _ (Lens_abs (e2 _ q))
    have g1 : ((540 : Int32) < nI b.natAbs) = False := eq_false (nI_nlt (a := 540) (by omega) (by decide))
    have v0 : vp_in (nI b.natAbs) 541 := vp_in_nI (by omega) (by decide)
    refine goN go (stp []) 160 _ _ _ _ _ _ (fun F hF hF0 => ?_)
    simp only [hF, hF0, ite_not, i_push, i_iload, i_lload, i_aload, i_istore, i_astore, i_lstore, i_iinc, i_bin, i_dv, i_un, i_lbin, i_lsh, i_i2l, i_l2i, i_lcmp, i_dup, i_dup2, i_pop, i_if, i_icmp, i_goto, swG, i_sw, i_getf, i_puti, i_putz, i_putr, i_ald, i_lald, i_aald, i_ast, i_last, i_aast, i_alen, i_new, i_newi, i_newl, i_newq, i_oinit, i_ret, i_zret, i_lret, i_vret, catS, tk, rpush, isO, i_m1, i_m2, i_acopy, i_callV, i_callS, KRet, lget, lput, lputL, lcl0, isL, lv0, List.map_cons, List.map_nil, List.length_cons, List.length_nil, List.cons_append, List.nil_append, Nat.reduceAdd, Nat.reduceSub, Nat.reduceLeDiff, List.replicate_succ, List.replicate_zero, List.getElem?_cons_succ, List.getElem?_cons_zero, List.set_cons_succ, List.set_cons_zero, true_and, and_true, if_true, if_false, ↓reduceIte, Nat.le_refl, Value.category, va_up_app, eq_self, stp, Nat.reduceBEq, Bool.or_false, Bool.false_or, Bool.true_or, Bool.or_true, or_true, true_or, bx_uu, implies_true, true_implies, not_true, not_false_eq_true, false_implies, and_self, Nat.reduceLT, Int32.reduceAdd, Int32.reduceSub, Int32.reduceMul, Int32.reduceLE, Int32.reduceLT, Int32.reduceToNatClampNeg, va_rf_some, Bool.false_eq_true, k_X3_lengthsByTwo_0 ca, k_X3_lengthsByTwo_1 ca, k_X3_lengthsByTwo_4 ca, k_X3_lengthsByTwo_5 ca, k_X3_lengthsByTwo_6 ca, k_X3_lengthsByTwo_9 ca, k_X3_lengthsByTwo_12 ca, k_X3_lengthsByTwo_13 ca, k_X3_lengthsByTwo_16 ca, k_X3_lengthsByTwo_17 ca, k_X3_lengthsByTwo_18 ca, k_X3_lengthsByTwo_21 ca, k_X3_lengthsByTwo_22 ca, e0, e1, ea, g1, v0, vn]
    try clear hF hF0 F
    exact k0
  · have k0 := hs 0 (Lens_0 (fun T hT => by have := canZ_bd hN hT; omega))
    have g1 : ((540 : Int32) < nI b.natAbs) = True := eq_true (nI_lt (a := 540) (by omega) (by omega))
    refine goN go (stp []) 160 _ _ _ _ _ _ (fun F hF hF0 => ?_)
    simp only [hF, hF0, ite_not, i_push, i_iload, i_lload, i_aload, i_istore, i_astore, i_lstore, i_iinc, i_bin, i_dv, i_un, i_lbin, i_lsh, i_i2l, i_l2i, i_lcmp, i_dup, i_dup2, i_pop, i_if, i_icmp, i_goto, swG, i_sw, i_getf, i_puti, i_putz, i_putr, i_ald, i_lald, i_aald, i_ast, i_last, i_aast, i_alen, i_new, i_newi, i_newl, i_newq, i_oinit, i_ret, i_zret, i_lret, i_vret, catS, tk, rpush, isO, i_m1, i_m2, i_acopy, i_callV, i_callS, KRet, lget, lput, lputL, lcl0, isL, lv0, List.map_cons, List.map_nil, List.length_cons, List.length_nil, List.cons_append, List.nil_append, Nat.reduceAdd, Nat.reduceSub, Nat.reduceLeDiff, List.replicate_succ, List.replicate_zero, List.getElem?_cons_succ, List.getElem?_cons_zero, List.set_cons_succ, List.set_cons_zero, true_and, and_true, if_true, if_false, ↓reduceIte, Nat.le_refl, Value.category, va_up_app, eq_self, stp, Nat.reduceBEq, Bool.or_false, Bool.false_or, Bool.true_or, Bool.or_true, or_true, true_or, bx_uu, implies_true, true_implies, not_true, not_false_eq_true, false_implies, and_self, Nat.reduceLT, Int32.reduceAdd, Int32.reduceSub, Int32.reduceMul, Int32.reduceLE, Int32.reduceLT, Int32.reduceToNatClampNeg, va_rf_some, Bool.false_eq_true, k_X3_lengthsByTwo_0 ca, k_X3_lengthsByTwo_1 ca, k_X3_lengthsByTwo_4 ca, k_X3_lengthsByTwo_5 ca, k_X3_lengthsByTwo_6 ca, k_X3_lengthsByTwo_9 ca, k_X3_lengthsByTwo_12 ca, k_X3_lengthsByTwo_13 ca, k_X3_lengthsByTwo_16 ca, k_X3_lengthsByTwo_17 ca, k_X3_lengthsByTwo_18 ca, k_X3_lengthsByTwo_21 ca, k_X3_lengthsByTwo_22 ca, e0, ea, g1]
    try clear hF hF0 F
    exact k0
