/-! SnapStacksModel: finds, stack -/
def iwC (s : Nat → Int32) : Nat → Int32 := fun i => b2i (wayB s i)
def ipC (s : Nat → Int32) : Nat → Int32 := fun j => b2i (pairB s j)
theorem sgB_cong {iw s : Nat → Int32} (hw : WayOk s iw) (T b : Int32) : sgB iw T b = sgB (iwC s) T b := by
  unfold sgB
  cases q3 : isIn (b / T) (-30) 30 with
  | false => rw [Bool.false_and, Bool.false_and]
  | true =>
    obtain ⟨V, hV, eV⟩ := isInN (A := 30) (B := 30) (by decide) (by decide) (by decide) q3
    have eV' : b / T + 30 = nI V := eV
    rw [eV', show (nI V).toNatClampNeg = V from nI_clamp (by omega), hw V (by omega)]
    rfl
theorem dbB_cong {ip s : Nat → Int32} (hp : PairOk s ip) (T b : Int32) : dbB ip T b = dbB (ipC s) T b := by
  unfold dbB
  cases q1 : isIn T 2 18 with
  | false => rw [Bool.false_and, Bool.false_and]
  | true =>
    cases q3 : isIn b (-540) 540 with
    | false => rw [Bool.false_and, Bool.false_and]
    | true =>
      obtain ⟨X, V, hX2, hX, hV, -, -, ei⟩ := db_ix q1 q3
      rw [ei, show (nI (1081 * (X - 2) + V)).toNatClampNeg = 1081 * (X - 2) + V from nI_clamp (by omega), hp _ (by omega)]
      rfl
theorem hitB_cong {iw ip s : Nat → Int32} (hw : WayOk s iw) (hp : PairOk s ip) (T b : Int32) (k : Nat) : hitB iw ip T b k = hitB (iwC s) (ipC s) T b k := by
  unfold hitB
  rw [hw _ (Nat.mod_lt k (by decide)), dbB_cong hp]
  rfl
theorem cbG_cong {iw ip s : Nat → Int32} (hw : WayOk s iw) (hp : PairOk s ip) (T b : Int32) : ∀ r k, cbG iw ip T b r k = cbG (iwC s) (ipC s) T b r k
  | 0, _ => rfl
  | r + 1, k => by
    unfold cbG
    rw [hitB_cong hw hp, cbG_cong hw hp T b r (k + 1)]
theorem cbB_cong {iw ip s : Nat → Int32} (hw : WayOk s iw) (hp : PairOk s ip) (P : Nat) (T b : Int32) : cbB iw ip P T b = cbB (iwC s) (ipC s) P T b := by
  unfold cbB
  rw [sgB_cong hw, dbB_cong hp, cbG_cong hw hp]
def cS (s : Nat → Int32) (P T : Nat) (b : Int32) : Bool := cbB (iwC s) (ipC s) P (nI T) b
def StkNo (s : Nat → Int32) (b : Int32) : Prop := ∀ P T, P ≤ 3 → P ≤ T → T ≤ 9 * P → cS s P T b = false
def StkAt (s : Nat → Int32) (b : Int32) (P T : Nat) : Prop := P ≤ 3 ∧ P ≤ T ∧ T ≤ 9 * P ∧ cS s P T b = true ∧ (∀ P' T', P' < P → P' ≤ T' → T' ≤ 9 * P' → cS s P' T' b = false) ∧ (∀ T', P ≤ T' → T' < T → cS s P T' b = false)
def RowC (s : Nat → Int32) (P T : Nat) (b : Int32) (kk : Nat → Nat) : Prop := ∃ LT RS, RowIs (iwC s) (ipC s) s P (nI T) b kk LT RS
theorem RowIs_cong {iw ip s : Nat → Int32} (hw : WayOk s iw) (hp : PairOk s ip) {P : Nat} {T b : Int32} {kk : Nat → Nat} {LT RS : Nat → Int32} (h : RowIs (iwC s) (ipC s) s P T b kk LT RS) : RowIs iw ip s P T b kk LT RS := by
  obtain ⟨h0, h1, h2⟩ := h
  refine ⟨h0, h1, fun n hn => ?_⟩
  obtain ⟨w1, w2, w3, w4, w5⟩ := h2 n hn
  exact ⟨w1, by rw [cbB_cong hw hp]; exact w2, fun k hk => by rw [cbB_cong hw hp]; exact w3 k hk, w4, w5⟩
def sp_X8_finds (ca : Nat → ClassId) : SPEC := fun av h post => ∃ m a st len fm at' re s iw ip fo b, av = [.ref m, .int b] ∧ RI m a ∧ h m = some (eMod a st len fm at' re) ∧ h (a 0) = some (.inl (ca 0, 127, .inl s)) ∧ h (a 7) = some (.inl (ca 2, 61, .inl iw)) ∧ h (a 8) = some (.inl (ca 2, 18377, .inl ip)) ∧ h (a 9) = some (.inl (ca 0, 9, .inl fo)) ∧ NumOk s ∧
  ((StkNo s b ∧ ∀ iw' ip', post (some (.int 0)) (va_up (va_up h (a 7) (some (.inl (ca 2, 61, .inl iw')))) (a 8) (some (.inl (ca 2, 18377, .inl ip'))))) ∨
   (∃ P T kk, StkAt s b P T ∧ RowC s P T b kk ∧ ∀ iw' ip' fo', FoIs fo' kk P → post (some (.int 1)) (va_up (va_up (va_up (va_up h (a 7) (some (.inl (ca 2, 61, .inl iw')))) (a 8) (some (.inl (ca 2, 18377, .inl ip')))) m (some (eMod a st len (nI P) at' re))) (a 9) (some (.inl (ca 0, 9, .inl fo'))))))
def k_X8_finds (ca : Nat → ClassId) : Nat → IT := fun pc => lk pc [(0, i_aload 0 1),
  (1, i_callV 8 0 0 0 0 0 (sp_X8_laysPairs ca) 4),
  (4, i_push (.int 0) 5),
  (5, i_istore 2 6),
  (6, i_iload 2 7),
  (7, i_push (.int 3) 8),
  (8, i_icmp (fun x y => y < x) 52 11),
  (11, i_iload 2 12),
  (12, i_istore 3 13),
  (13, i_iload 3 14),
  (14, i_push (.int 9) 16),
  (16, i_iload 2 17),
  (17, i_bin (fun x y => x * y) 18),
  (18, i_icmp (fun x y => y < x) 46 21),
  (21, i_aload 0 22),
  (22, i_iload 2 23),
  (23, i_iload 3 24),
  (24, i_iload 1 25),
  (25, i_callV 8 3 0 0 0 0 (sp_X8_canBend ca) 28),
  (28, i_if (fun x => x = 0) 40 31),
  (31, i_aload 0 32),
  (32, i_iload 2 33),
  (33, i_iload 3 34),
  (34, i_iload 1 35),
  (35, i_callV 8 3 0 0 0 0 (sp_X8_lays ca) 38),
  (38, i_push (.int 1) 39),
  (39, i_zret),
  (40, i_iinc 3 1 43),
  (43, i_goto 13),
  (46, i_iinc 2 1 49),
  (49, i_goto 6),
  (52, i_push (.int 0) 53),
  (53, i_zret)]
set_option maxRecDepth 20000 in
theorem t_X8_finds : Tb k_X8_finds yX8_finds cX8_finds 4 (some .boolean) 4 0 0 := by
  intro l D ca A p e s m args below meth c post X
  unfold k_X8_finds
  refine snd_cons (snd_aload_n X dX8_finds_0 rfl) ?_
  refine snd_cons (snd_callV X Fk8 (ok_X8_laysPairs l D ca) rfl rfl w_902 w_904 wp_43 w_9 w_905 (by decide) (by decide) dX8_finds_1) ?_
  refine snd_cons (snd_iconst X dX8_finds_4 (by decide)) ?_
  refine snd_cons (snd_istore_n X dX8_finds_5 rfl (by decide)) ?_
  refine snd_cons (snd_iload_n X dX8_finds_6 rfl) ?_
  refine snd_cons (snd_iconst X dX8_finds_7 (by decide)) ?_
  refine snd_cons (snd_icmp_gt X dX8_finds_8 (by decide)) ?_
  refine snd_cons (snd_iload_n X dX8_finds_11 rfl) ?_
  refine snd_cons (snd_istore_n X dX8_finds_12 rfl (by decide)) ?_
  refine snd_cons (snd_iload_n X dX8_finds_13 rfl) ?_
  refine snd_cons (snd_bipush X dX8_finds_14 (by decide)) ?_
  refine snd_cons (snd_iload_n X dX8_finds_16 rfl) ?_
  refine snd_cons (snd_imul X dX8_finds_17) ?_
  refine snd_cons (snd_icmp_gt X dX8_finds_18 (by decide)) ?_
  refine snd_cons (snd_aload_n X dX8_finds_21 rfl) ?_
  refine snd_cons (snd_iload_n X dX8_finds_22 rfl) ?_
  refine snd_cons (snd_iload_n X dX8_finds_23 rfl) ?_
  refine snd_cons (snd_iload_n X dX8_finds_24 rfl) ?_
  refine snd_cons (snd_callV X Fk8 (ok_X8_canBend l D ca) rfl rfl w_910 w_912 wp_45 w_9 w_913 (by decide) (by decide) dX8_finds_25) ?_
  refine snd_cons (snd_if_eq X dX8_finds_28 (by decide)) ?_
  refine snd_cons (snd_aload_n X dX8_finds_31 rfl) ?_
  refine snd_cons (snd_iload_n X dX8_finds_32 rfl) ?_
  refine snd_cons (snd_iload_n X dX8_finds_33 rfl) ?_
  refine snd_cons (snd_iload_n X dX8_finds_34 rfl) ?_
  refine snd_cons (snd_callV X Fk8 (ok_X8_lays l D ca) rfl rfl w_922 w_924 wp_48 w_9 w_925 (by decide) (by decide) dX8_finds_35) ?_
  refine snd_cons (snd_iconst X dX8_finds_38 (by decide)) ?_
  refine snd_cons (snd_zret X dX8_finds_39) ?_
  refine snd_cons (snd_iinc X dX8_finds_40 (by decide) (by decide)) ?_
  refine snd_cons (snd_goto X dX8_finds_43 (by decide)) ?_
  refine snd_cons (snd_iinc X dX8_finds_46 (by decide) (by decide)) ?_
  refine snd_cons (snd_goto X dX8_finds_49 (by decide)) ?_
  refine snd_cons (snd_iconst X dX8_finds_52 (by decide)) ?_
  refine snd_cons (snd_zret X dX8_finds_53) ?_
  exact snd_nil
theorem k_X8_finds_0 (ca : Nat → ClassId) : k_X8_finds ca 0 = i_aload 0 1 := rfl
theorem k_X8_finds_1 (ca : Nat → ClassId) : k_X8_finds ca 1 = i_callV 8 0 0 0 0 0 (sp_X8_laysPairs ca) 4 := rfl
theorem k_X8_finds_4 (ca : Nat → ClassId) : k_X8_finds ca 4 = i_push (.int 0) 5 := rfl
theorem k_X8_finds_5 (ca : Nat → ClassId) : k_X8_finds ca 5 = i_istore 2 6 := rfl
theorem k_X8_finds_6 (ca : Nat → ClassId) : k_X8_finds ca 6 = i_iload 2 7 := rfl
theorem k_X8_finds_7 (ca : Nat → ClassId) : k_X8_finds ca 7 = i_push (.int 3) 8 := rfl
theorem k_X8_finds_8 (ca : Nat → ClassId) : k_X8_finds ca 8 = i_icmp (fun x y => y < x) 52 11 := rfl
theorem k_X8_finds_11 (ca : Nat → ClassId) : k_X8_finds ca 11 = i_iload 2 12 := rfl
theorem k_X8_finds_12 (ca : Nat → ClassId) : k_X8_finds ca 12 = i_istore 3 13 := rfl
theorem k_X8_finds_13 (ca : Nat → ClassId) : k_X8_finds ca 13 = i_iload 3 14 := rfl
theorem k_X8_finds_14 (ca : Nat → ClassId) : k_X8_finds ca 14 = i_push (.int 9) 16 := rfl
theorem k_X8_finds_16 (ca : Nat → ClassId) : k_X8_finds ca 16 = i_iload 2 17 := rfl
theorem k_X8_finds_17 (ca : Nat → ClassId) : k_X8_finds ca 17 = i_bin (fun x y => x * y) 18 := rfl
theorem k_X8_finds_18 (ca : Nat → ClassId) : k_X8_finds ca 18 = i_icmp (fun x y => y < x) 46 21 := rfl
theorem k_X8_finds_21 (ca : Nat → ClassId) : k_X8_finds ca 21 = i_aload 0 22 := rfl
theorem k_X8_finds_22 (ca : Nat → ClassId) : k_X8_finds ca 22 = i_iload 2 23 := rfl
theorem k_X8_finds_23 (ca : Nat → ClassId) : k_X8_finds ca 23 = i_iload 3 24 := rfl
theorem k_X8_finds_24 (ca : Nat → ClassId) : k_X8_finds ca 24 = i_iload 1 25 := rfl
theorem k_X8_finds_25 (ca : Nat → ClassId) : k_X8_finds ca 25 = i_callV 8 3 0 0 0 0 (sp_X8_canBend ca) 28 := rfl
theorem k_X8_finds_28 (ca : Nat → ClassId) : k_X8_finds ca 28 = i_if (fun x => x = 0) 40 31 := rfl
theorem k_X8_finds_31 (ca : Nat → ClassId) : k_X8_finds ca 31 = i_aload 0 32 := rfl
theorem k_X8_finds_32 (ca : Nat → ClassId) : k_X8_finds ca 32 = i_iload 2 33 := rfl
theorem k_X8_finds_33 (ca : Nat → ClassId) : k_X8_finds ca 33 = i_iload 3 34 := rfl
theorem k_X8_finds_34 (ca : Nat → ClassId) : k_X8_finds ca 34 = i_iload 1 35 := rfl
theorem k_X8_finds_35 (ca : Nat → ClassId) : k_X8_finds ca 35 = i_callV 8 3 0 0 0 0 (sp_X8_lays ca) 38 := rfl
theorem k_X8_finds_38 (ca : Nat → ClassId) : k_X8_finds ca 38 = i_push (.int 1) 39 := rfl
theorem k_X8_finds_39 (ca : Nat → ClassId) : k_X8_finds ca 39 = i_zret := rfl
theorem k_X8_finds_40 (ca : Nat → ClassId) : k_X8_finds ca 40 = i_iinc 3 1 43 := rfl
theorem k_X8_finds_43 (ca : Nat → ClassId) : k_X8_finds ca 43 = i_goto 13 := rfl
theorem k_X8_finds_46 (ca : Nat → ClassId) : k_X8_finds ca 46 = i_iinc 2 1 49 := rfl
theorem k_X8_finds_49 (ca : Nat → ClassId) : k_X8_finds ca 49 = i_goto 6 := rfl
theorem k_X8_finds_52 (ca : Nat → ClassId) : k_X8_finds ca 52 = i_push (.int 0) 53 := rfl
theorem k_X8_finds_53 (ca : Nat → ClassId) : k_X8_finds ca 53 = i_zret := rfl
set_option maxHeartbeats 4000000 in
set_option maxRecDepth 20000 in
theorem ok_X8_finds (l : Launch) (D : va_G) (ca : Nat → ClassId) : OkAll l D ca yX8_finds cX8_finds 4 (some .boolean) 4 0 0 (sp_X8_finds ca) := by
  intro av h post hs
  obtain ⟨m, a, st, len, fm, at', re, s, iw, ip, fo, b, rfl, I, hm, h0, h7, h8, h9, hN, hs⟩ := hs
  have hm' := hm
  unfold eMod at hm'
  refine okM_of t_X8_finds (by decide +kernel) (c1_ref (c1_int c1_nil)) (Nat.le_of_ble_eq_true rfl) ?_
  intro K go
  refine goN go (stp [4]) 160 _ _ _ _ _ _ (fun F hF hF0 => ?_)
  simp only [hF, hF0, ite_not, i_push, i_iload, i_lload, i_aload, i_istore, i_astore, i_lstore, i_iinc, i_bin, i_dv, i_un, i_lbin, i_lsh, i_i2l, i_l2i, i_lcmp, i_dup, i_dup2, i_pop, i_if, i_icmp, i_goto, swG, i_sw, i_getf, i_puti, i_putz, i_putr, i_ald, i_lald, i_aald, i_ast, i_last, i_aast, i_alen, i_new, i_newi, i_newl, i_newq, i_oinit, i_ret, i_zret, i_lret, i_vret, catS, tk, rpush, isO, i_m1, i_m2, i_acopy, i_callV, i_callS, KRet, lget, lput, lputL, lcl0, isL, lv0, List.map_cons, List.map_nil, List.length_cons, List.length_nil, List.cons_append, List.nil_append, Nat.reduceAdd, Nat.reduceSub, Nat.reduceLeDiff, List.replicate_succ, List.replicate_zero, List.getElem?_cons_succ, List.getElem?_cons_zero, List.set_cons_succ, List.set_cons_zero, true_and, and_true, if_true, if_false, ↓reduceIte, Nat.le_refl, Value.category, va_up_app, eq_self, stp, Nat.reduceBEq, Bool.or_false, Bool.false_or, Bool.true_or, Bool.or_true, or_true, true_or, bx_uu, implies_true, true_implies, not_true, not_false_eq_true, false_implies, and_self, Nat.reduceLT, Int32.reduceAdd, Int32.reduceSub, Int32.reduceMul, Int32.reduceLE, Int32.reduceLT, Int32.reduceToNatClampNeg, va_rf_some, Bool.false_eq_true, k_X8_finds_0 ca, k_X8_finds_1 ca, k_X8_finds_4 ca, k_X8_finds_5 ca, k_X8_finds_6 ca, k_X8_finds_7 ca, k_X8_finds_8 ca, k_X8_finds_11 ca, k_X8_finds_12 ca, k_X8_finds_13 ca, k_X8_finds_14 ca, k_X8_finds_16 ca, k_X8_finds_17 ca, k_X8_finds_18 ca, k_X8_finds_21 ca, k_X8_finds_22 ca, k_X8_finds_23 ca, k_X8_finds_24 ca, k_X8_finds_25 ca, k_X8_finds_28 ca, k_X8_finds_31 ca, k_X8_finds_32 ca, k_X8_finds_33 ca, k_X8_finds_34 ca, k_X8_finds_35 ca, k_X8_finds_38 ca, k_X8_finds_39 ca, k_X8_finds_40 ca, k_X8_finds_43 ca, k_X8_finds_46 ca, k_X8_finds_49 ca, k_X8_finds_52 ca, k_X8_finds_53 ca, hm']
  try clear hF hF0 F
  refine ⟨m, a, s, iw, ip, rfl, I, ⟨_, _, _, _, _, hm⟩, h0, h7, h8, hN, fun iw' ip' hw hp => ?_⟩
  have hs2 : (StkNo s b ∧ post (some (.int 0)) (va_up (va_up h (a 7) (some (.inl (ca 2, 61, .inl iw')))) (a 8) (some (.inl (ca 2, 18377, .inl ip'))))) ∨ (∃ P T kk, StkAt s b P T ∧ RowC s P T b kk ∧ ∀ fo', FoIs fo' kk P → post (some (.int 1)) (va_up (va_up (va_up (va_up h (a 7) (some (.inl (ca 2, 61, .inl iw')))) (a 8) (some (.inl (ca 2, 18377, .inl ip')))) m (some (eMod a st len (nI P) at' re))) (a 9) (some (.inl (ca 0, 9, .inl fo'))))) := by
    rcases hs with ⟨x, y⟩ | ⟨P, T, kk, x, y, z⟩
    · exact Or.inl ⟨x, y iw' ip'⟩
    · exact Or.inr ⟨P, T, kk, x, y, z iw' ip'⟩
  clear hs
  have hmH : va_up (va_up h (a 7) (some (.inl (ca 2, 61, .inl iw')))) (a 8) (some (.inl (ca 2, 18377, .inl ip'))) m = some (eMod a st len fm at' re) := (va_up_ne _ _ (I.2 8)).trans ((va_up_ne _ _ (I.2 7)).trans hm)
  have h0H : va_up (va_up h (a 7) (some (.inl (ca 2, 61, .inl iw')))) (a 8) (some (.inl (ca 2, 18377, .inl ip'))) (a 0) = some (.inl (ca 0, 127, .inl s)) := (va_up_ne _ _ (I.ne (by decide))).trans ((va_up_ne _ _ (I.ne (by decide))).trans h0)
  have h7H : va_up (va_up h (a 7) (some (.inl (ca 2, 61, .inl iw')))) (a 8) (some (.inl (ca 2, 18377, .inl ip'))) (a 7) = some (.inl (ca 2, 61, .inl iw')) := (va_up_ne _ _ (I.ne (by decide))).trans (va_up_self _ _ _)
  have h8H : va_up (va_up h (a 7) (some (.inl (ca 2, 61, .inl iw')))) (a 8) (some (.inl (ca 2, 18377, .inl ip'))) (a 8) = some (.inl (ca 2, 18377, .inl ip')) := va_up_self _ _ _
  have h9H : va_up (va_up h (a 7) (some (.inl (ca 2, 61, .inl iw')))) (a 8) (some (.inl (ca 2, 18377, .inl ip'))) (a 9) = some (.inl (ca 0, 9, .inl fo)) := (va_up_ne _ _ (I.ne (by decide))).trans ((va_up_ne _ _ (I.ne (by decide))).trans h9)
  generalize va_up (va_up h (a 7) (some (.inl (ca 2, 61, .inl iw')))) (a 8) (some (.inl (ca 2, 18377, .inl ip'))) = H at *
  have hmH' := hmH
  unfold eMod at hmH'
  have hc : ∀ P T, cbB iw' ip' P (nI T) b = cS s P T b := fun P T => cbB_cong hw hp P (nI T) b
  -- one try at P, T: what follows
  have try1 : ∀ P T, P ≤ 3 → T ≤ 27 → P ≤ T → T ≤ 9 * P → (cS s P T b = true → (∀ P' T', P' < P → P' ≤ T' → T' ≤ 9 * P' → cS s P' T' b = false) ∧ (∀ T', P ≤ T' → T' < T → cS s P T' b = false)) → (cS s P T b = false → K 0 0 13 [some (.ref m), some (.int b), some (.int (nI P)), some (.int (nI (T + 1)))] [] H) → K 0 0 13 [some (.ref m), some (.int b), some (.int (nI P)), some (.int (nI T))] [] H := by
    intro P T hP hT hPT hT9 hmin hno
    have e9 : (9 : Int32) * nI P = nI (9 * P) := by rw [show (9 : Int32) = nI 9 from rfl, pk_mul]
    have g1 : (nI (9 * P) < nI T) = False := eq_false (nI_nlt (by omega) (by omega))
    refine goN go (stp [28]) 160 _ _ _ _ _ _ (fun F hF hF0 => ?_)
    simp only [hF, hF0, ite_not, i_push, i_iload, i_lload, i_aload, i_istore, i_astore, i_lstore, i_iinc, i_bin, i_dv, i_un, i_lbin, i_lsh, i_i2l, i_l2i, i_lcmp, i_dup, i_dup2, i_pop, i_if, i_icmp, i_goto, swG, i_sw, i_getf, i_puti, i_putz, i_putr, i_ald, i_lald, i_aald, i_ast, i_last, i_aast, i_alen, i_new, i_newi, i_newl, i_newq, i_oinit, i_ret, i_zret, i_lret, i_vret, catS, tk, rpush, isO, i_m1, i_m2, i_acopy, i_callV, i_callS, KRet, lget, lput, lputL, lcl0, isL, lv0, List.map_cons, List.map_nil, List.length_cons, List.length_nil, List.cons_append, List.nil_append, Nat.reduceAdd, Nat.reduceSub, Nat.reduceLeDiff, List.replicate_succ, List.replicate_zero, List.getElem?_cons_succ, List.getElem?_cons_zero, List.set_cons_succ, List.set_cons_zero, true_and, and_true, if_true, if_false, ↓reduceIte, Nat.le_refl, Value.category, va_up_app, eq_self, stp, Nat.reduceBEq, Bool.or_false, Bool.false_or, Bool.true_or, Bool.or_true, or_true, true_or, bx_uu, implies_true, true_implies, not_true, not_false_eq_true, false_implies, and_self, Nat.reduceLT, Int32.reduceAdd, Int32.reduceSub, Int32.reduceMul, Int32.reduceLE, Int32.reduceLT, Int32.reduceToNatClampNeg, va_rf_some, Bool.false_eq_true, k_X8_finds_0 ca, k_X8_finds_1 ca, k_X8_finds_4 ca, k_X8_finds_5 ca, k_X8_finds_6 ca, k_X8_finds_7 ca, k_X8_finds_8 ca, k_X8_finds_11 ca, k_X8_finds_12 ca, k_X8_finds_13 ca, k_X8_finds_14 ca, k_X8_finds_16 ca, k_X8_finds_17 ca, k_X8_finds_18 ca, k_X8_finds_21 ca, k_X8_finds_22 ca, k_X8_finds_23 ca, k_X8_finds_24 ca, k_X8_finds_25 ca, k_X8_finds_28 ca, k_X8_finds_31 ca, k_X8_finds_32 ca, k_X8_finds_33 ca, k_X8_finds_34 ca, k_X8_finds_35 ca, k_X8_finds_38 ca, k_X8_finds_39 ca, k_X8_finds_40 ca, k_X8_finds_43 ca, k_X8_finds_46 ca, k_X8_finds_49 ca, k_X8_finds_52 ca, k_X8_finds_53 ca, e9, g1, hmH']
    try clear hF hF0 F
    refine ⟨m, a, iw', ip', P, nI T, b, hP, rfl, ⟨_, _, _, _, _, hmH⟩, h7H, h8H, ?_⟩
    rw [hc]
    cases q : cS s P T b with
    | false =>
      rw [b2i_f]
      have k0 := hno q
      refine goN go (stp [13]) 160 _ _ _ _ _ _ (fun F hF hF0 => ?_)
      simp only [hF, hF0, ite_not, i_push, i_iload, i_lload, i_aload, i_istore, i_astore, i_lstore, i_iinc, i_bin, i_dv, i_un, i_lbin, i_lsh, i_i2l, i_l2i, i_lcmp, i_dup, i_dup2, i_pop, i_if, i_icmp, i_goto, swG, i_sw, i_getf, i_puti, i_putz, i_putr, i_ald, i_lald, i_aald, i_ast, i_last, i_aast, i_alen, i_new, i_newi, i_newl, i_newq, i_oinit, i_ret, i_zret, i_lret, i_vret, catS, tk, rpush, isO, i_m1, i_m2, i_acopy, i_callV, i_callS, KRet, lget, lput, lputL, lcl0, isL, lv0, List.map_cons, List.map_nil, List.length_cons, List.length_nil, List.cons_append, List.nil_append, Nat.reduceAdd, Nat.reduceSub, Nat.reduceLeDiff, List.replicate_succ, List.replicate_zero, List.getElem?_cons_succ, List.getElem?_cons_zero, List.set_cons_succ, List.set_cons_zero, true_and, and_true, if_true, if_false, ↓reduceIte, Nat.le_refl, Value.category, va_up_app, eq_self, stp, Nat.reduceBEq, Bool.or_false, Bool.false_or, Bool.true_or, Bool.or_true, or_true, true_or, bx_uu, implies_true, true_implies, not_true, not_false_eq_true, false_implies, and_self, Nat.reduceLT, Int32.reduceAdd, Int32.reduceSub, Int32.reduceMul, Int32.reduceLE, Int32.reduceLT, Int32.reduceToNatClampNeg, va_rf_some, Bool.false_eq_true, k_X8_finds_0 ca, k_X8_finds_1 ca, k_X8_finds_4 ca, k_X8_finds_5 ca, k_X8_finds_6 ca, k_X8_finds_7 ca, k_X8_finds_8 ca, k_X8_finds_11 ca, k_X8_finds_12 ca, k_X8_finds_13 ca, k_X8_finds_14 ca, k_X8_finds_16 ca, k_X8_finds_17 ca, k_X8_finds_18 ca, k_X8_finds_21 ca, k_X8_finds_22 ca, k_X8_finds_23 ca, k_X8_finds_24 ca, k_X8_finds_25 ca, k_X8_finds_28 ca, k_X8_finds_31 ca, k_X8_finds_32 ca, k_X8_finds_33 ca, k_X8_finds_34 ca, k_X8_finds_35 ca, k_X8_finds_38 ca, k_X8_finds_39 ca, k_X8_finds_40 ca, k_X8_finds_43 ca, k_X8_finds_46 ca, k_X8_finds_49 ca, k_X8_finds_52 ca, k_X8_finds_53 ca, a_1]
      try clear hF hF0 F
      exact k0
    | true =>
      rw [b2i_t]
      obtain ⟨hm1, hm2⟩ := hmin q
      rcases hs2 with ⟨hno2, -⟩ | ⟨P2, T2, kk, ⟨s1, s2, s3, s4, s5, s6⟩, ⟨LT, RS, hrow⟩, hfin⟩
      · exact absurd (hno2 P T hP hPT hT9) (by rw [q]; decide)
      · have ePP : P2 = P := by
          rcases Nat.lt_trichotomy P2 P with z | z | z
          · exact absurd (hm1 P2 T2 z s2 s3) (by rw [s4]; decide)
          · exact z
          · exact absurd (s5 P T z hPT hT9) (by rw [q]; decide)
        subst ePP
        have eTT : T2 = T := by
          rcases Nat.lt_trichotomy T2 T with z | z | z
          · exact absurd (hm2 T2 s2 z) (by rw [s4]; decide)
          · exact z
          · exact absurd (s6 T hPT z) (by rw [q]; decide)
        subst eTT
        refine goN go (stp [38]) 160 _ _ _ _ _ _ (fun F hF hF0 => ?_)
        simp only [hF, hF0, ite_not, i_push, i_iload, i_lload, i_aload, i_istore, i_astore, i_lstore, i_iinc, i_bin, i_dv, i_un, i_lbin, i_lsh, i_i2l, i_l2i, i_lcmp, i_dup, i_dup2, i_pop, i_if, i_icmp, i_goto, swG, i_sw, i_getf, i_puti, i_putz, i_putr, i_ald, i_lald, i_aald, i_ast, i_last, i_aast, i_alen, i_new, i_newi, i_newl, i_newq, i_oinit, i_ret, i_zret, i_lret, i_vret, catS, tk, rpush, isO, i_m1, i_m2, i_acopy, i_callV, i_callS, KRet, lget, lput, lputL, lcl0, isL, lv0, List.map_cons, List.map_nil, List.length_cons, List.length_nil, List.cons_append, List.nil_append, Nat.reduceAdd, Nat.reduceSub, Nat.reduceLeDiff, List.replicate_succ, List.replicate_zero, List.getElem?_cons_succ, List.getElem?_cons_zero, List.set_cons_succ, List.set_cons_zero, true_and, and_true, if_true, if_false, ↓reduceIte, Nat.le_refl, Value.category, va_up_app, eq_self, stp, Nat.reduceBEq, Bool.or_false, Bool.false_or, Bool.true_or, Bool.or_true, or_true, true_or, bx_uu, implies_true, true_implies, not_true, not_false_eq_true, false_implies, and_self, Nat.reduceLT, Int32.reduceAdd, Int32.reduceSub, Int32.reduceMul, Int32.reduceLE, Int32.reduceLT, Int32.reduceToNatClampNeg, va_rf_some, Bool.false_eq_true, k_X8_finds_0 ca, k_X8_finds_1 ca, k_X8_finds_4 ca, k_X8_finds_5 ca, k_X8_finds_6 ca, k_X8_finds_7 ca, k_X8_finds_8 ca, k_X8_finds_11 ca, k_X8_finds_12 ca, k_X8_finds_13 ca, k_X8_finds_14 ca, k_X8_finds_16 ca, k_X8_finds_17 ca, k_X8_finds_18 ca, k_X8_finds_21 ca, k_X8_finds_22 ca, k_X8_finds_23 ca, k_X8_finds_24 ca, k_X8_finds_25 ca, k_X8_finds_28 ca, k_X8_finds_31 ca, k_X8_finds_32 ca, k_X8_finds_33 ca, k_X8_finds_34 ca, k_X8_finds_35 ca, k_X8_finds_38 ca, k_X8_finds_39 ca, k_X8_finds_40 ca, k_X8_finds_43 ca, k_X8_finds_46 ca, k_X8_finds_49 ca, k_X8_finds_52 ca, k_X8_finds_53 ca, one0, hmH']
        try clear hF hF0 F
        refine ⟨m, a, st, len, fm, at', re, s, iw', ip', fo, P2, nI T2, b, kk, LT, RS, hP, rfl, I, hmH, h0H, h7H, h8H, h9H, RowIs_cong hw hp hrow, fun fo' hf => ?_⟩
        have k0 := hfin fo' hf
        refine goN go (stp []) 160 _ _ _ _ _ _ (fun F hF hF0 => ?_)
        simp only [hF, hF0, ite_not, i_push, i_iload, i_lload, i_aload, i_istore, i_astore, i_lstore, i_iinc, i_bin, i_dv, i_un, i_lbin, i_lsh, i_i2l, i_l2i, i_lcmp, i_dup, i_dup2, i_pop, i_if, i_icmp, i_goto, swG, i_sw, i_getf, i_puti, i_putz, i_putr, i_ald, i_lald, i_aald, i_ast, i_last, i_aast, i_alen, i_new, i_newi, i_newl, i_newq, i_oinit, i_ret, i_zret, i_lret, i_vret, catS, tk, rpush, isO, i_m1, i_m2, i_acopy, i_callV, i_callS, KRet, lget, lput, lputL, lcl0, isL, lv0, List.map_cons, List.map_nil, List.length_cons, List.length_nil, List.cons_append, List.nil_append, Nat.reduceAdd, Nat.reduceSub, Nat.reduceLeDiff, List.replicate_succ, List.replicate_zero, List.getElem?_cons_succ, List.getElem?_cons_zero, List.set_cons_succ, List.set_cons_zero, true_and, and_true, if_true, if_false, ↓reduceIte, Nat.le_refl, Value.category, va_up_app, eq_self, stp, Nat.reduceBEq, Bool.or_false, Bool.false_or, Bool.true_or, Bool.or_true, or_true, true_or, bx_uu, implies_true, true_implies, not_true, not_false_eq_true, false_implies, and_self, Nat.reduceLT, Int32.reduceAdd, Int32.reduceSub, Int32.reduceMul, Int32.reduceLE, Int32.reduceLT, Int32.reduceToNatClampNeg, va_rf_some, Bool.false_eq_true, k_X8_finds_0 ca, k_X8_finds_1 ca, k_X8_finds_4 ca, k_X8_finds_5 ca, k_X8_finds_6 ca, k_X8_finds_7 ca, k_X8_finds_8 ca, k_X8_finds_11 ca, k_X8_finds_12 ca, k_X8_finds_13 ca, k_X8_finds_14 ca, k_X8_finds_16 ca, k_X8_finds_17 ca, k_X8_finds_18 ca, k_X8_finds_21 ca, k_X8_finds_22 ca, k_X8_finds_23 ca, k_X8_finds_24 ca, k_X8_finds_25 ca, k_X8_finds_28 ca, k_X8_finds_31 ca, k_X8_finds_32 ca, k_X8_finds_33 ca, k_X8_finds_34 ca, k_X8_finds_35 ca, k_X8_finds_38 ca, k_X8_finds_39 ca, k_X8_finds_40 ca, k_X8_finds_43 ca, k_X8_finds_46 ca, k_X8_finds_49 ca, k_X8_finds_52 ca, k_X8_finds_53 ca]
        try clear hF hF0 F
        exact k0
  have all : ∀ r P, P + r = 4 → (∀ P' T', P' < P → P' ≤ T' → T' ≤ 9 * P' → cS s P' T' b = false) → ∀ x3, K 0 0 6 [some (.ref m), some (.int b), some (.int (nI P)), x3] [] H := by
    intro r
    induction r with
    | zero =>
      intro P hP hmin x3
      have hP : P = 4 := hP
      subst hP
      have e : nI 4 = 4 := rfl
      rcases hs2 with ⟨-, hfin⟩ | ⟨P2, T2, kk, ⟨s1, s2, s3, s4, s5, s6⟩, -⟩
      · refine goN go (stp []) 160 _ _ _ _ _ _ (fun F hF hF0 => ?_)
        simp only [hF, hF0, ite_not, i_push, i_iload, i_lload, i_aload, i_istore, i_astore, i_lstore, i_iinc, i_bin, i_dv, i_un, i_lbin, i_lsh, i_i2l, i_l2i, i_lcmp, i_dup, i_dup2, i_pop, i_if, i_icmp, i_goto, swG, i_sw, i_getf, i_puti, i_putz, i_putr, i_ald, i_lald, i_aald, i_ast, i_last, i_aast, i_alen, i_new, i_newi, i_newl, i_newq, i_oinit, i_ret, i_zret, i_lret, i_vret, catS, tk, rpush, isO, i_m1, i_m2, i_acopy, i_callV, i_callS, KRet, lget, lput, lputL, lcl0, isL, lv0, List.map_cons, List.map_nil, List.length_cons, List.length_nil, List.cons_append, List.nil_append, Nat.reduceAdd, Nat.reduceSub, Nat.reduceLeDiff, List.replicate_succ, List.replicate_zero, List.getElem?_cons_succ, List.getElem?_cons_zero, List.set_cons_succ, List.set_cons_zero, true_and, and_true, if_true, if_false, ↓reduceIte, Nat.le_refl, Value.category, va_up_app, eq_self, stp, Nat.reduceBEq, Bool.or_false, Bool.false_or, Bool.true_or, Bool.or_true, or_true, true_or, bx_uu, implies_true, true_implies, not_true, not_false_eq_true, false_implies, and_self, Nat.reduceLT, Int32.reduceAdd, Int32.reduceSub, Int32.reduceMul, Int32.reduceLE, Int32.reduceLT, Int32.reduceToNatClampNeg, va_rf_some, Bool.false_eq_true, k_X8_finds_0 ca, k_X8_finds_1 ca, k_X8_finds_4 ca, k_X8_finds_5 ca, k_X8_finds_6 ca, k_X8_finds_7 ca, k_X8_finds_8 ca, k_X8_finds_11 ca, k_X8_finds_12 ca, k_X8_finds_13 ca, k_X8_finds_14 ca, k_X8_finds_16 ca, k_X8_finds_17 ca, k_X8_finds_18 ca, k_X8_finds_21 ca, k_X8_finds_22 ca, k_X8_finds_23 ca, k_X8_finds_24 ca, k_X8_finds_25 ca, k_X8_finds_28 ca, k_X8_finds_31 ca, k_X8_finds_32 ca, k_X8_finds_33 ca, k_X8_finds_34 ca, k_X8_finds_35 ca, k_X8_finds_38 ca, k_X8_finds_39 ca, k_X8_finds_40 ca, k_X8_finds_43 ca, k_X8_finds_46 ca, k_X8_finds_49 ca, k_X8_finds_52 ca, k_X8_finds_53 ca, e]
        try clear hF hF0 F
        exact hfin
      · exact absurd (hmin P2 T2 (by omega) s2 s3) (by rw [s4]; decide)
    | succ r ih =>
      intro P hP hmin x3
      have g1 : ((3 : Int32) < nI P) = False := eq_false (nI_nlt (a := 3) (by omega) (by omega))
      have tot : ∀ r2 T, T + r2 = 9 * P + 1 → P ≤ T → (∀ T', P ≤ T' → T' < T → cS s P T' b = false) → K 0 0 13 [some (.ref m), some (.int b), some (.int (nI P)), some (.int (nI T))] [] H := by
        intro r2
        induction r2 with
        | zero =>
          intro T hT hPT hmin2
          have hT : T = 9 * P + 1 := hT
          subst hT
          have e9 : (9 : Int32) * nI P = nI (9 * P) := by rw [show (9 : Int32) = nI 9 from rfl, pk_mul]
          have g2 : (nI (9 * P) < nI (9 * P + 1)) = True := eq_true (nI_lt (by omega) (by omega))
          have k0 := ih (P + 1) (by omega) (fun P' T' h1 h2 h3 => by
            by_cases z : P' = P
            · subst z; exact hmin2 T' h2 (by omega)
            · exact hmin P' T' (by omega) h2 h3) (some (.int (nI (9 * P + 1))))
          refine goN go (stp [6]) 160 _ _ _ _ _ _ (fun F hF hF0 => ?_)
          simp only [hF, hF0, ite_not, i_push, i_iload, i_lload, i_aload, i_istore, i_astore, i_lstore, i_iinc, i_bin, i_dv, i_un, i_lbin, i_lsh, i_i2l, i_l2i, i_lcmp, i_dup, i_dup2, i_pop, i_if, i_icmp, i_goto, swG, i_sw, i_getf, i_puti, i_putz, i_putr, i_ald, i_lald, i_aald, i_ast, i_last, i_aast, i_alen, i_new, i_newi, i_newl, i_newq, i_oinit, i_ret, i_zret, i_lret, i_vret, catS, tk, rpush, isO, i_m1, i_m2, i_acopy, i_callV, i_callS, KRet, lget, lput, lputL, lcl0, isL, lv0, List.map_cons, List.map_nil, List.length_cons, List.length_nil, List.cons_append, List.nil_append, Nat.reduceAdd, Nat.reduceSub, Nat.reduceLeDiff, List.replicate_succ, List.replicate_zero, List.getElem?_cons_succ, List.getElem?_cons_zero, List.set_cons_succ, List.set_cons_zero, true_and, and_true, if_true, if_false, ↓reduceIte, Nat.le_refl, Value.category, va_up_app, eq_self, stp, Nat.reduceBEq, Bool.or_false, Bool.false_or, Bool.true_or, Bool.or_true, or_true, true_or, bx_uu, implies_true, true_implies, not_true, not_false_eq_true, false_implies, and_self, Nat.reduceLT, Int32.reduceAdd, Int32.reduceSub, Int32.reduceMul, Int32.reduceLE, Int32.reduceLT, Int32.reduceToNatClampNeg, va_rf_some, Bool.false_eq_true, k_X8_finds_0 ca, k_X8_finds_1 ca, k_X8_finds_4 ca, k_X8_finds_5 ca, k_X8_finds_6 ca, k_X8_finds_7 ca, k_X8_finds_8 ca, k_X8_finds_11 ca, k_X8_finds_12 ca, k_X8_finds_13 ca, k_X8_finds_14 ca, k_X8_finds_16 ca, k_X8_finds_17 ca, k_X8_finds_18 ca, k_X8_finds_21 ca, k_X8_finds_22 ca, k_X8_finds_23 ca, k_X8_finds_24 ca, k_X8_finds_25 ca, k_X8_finds_28 ca, k_X8_finds_31 ca, k_X8_finds_32 ca, k_X8_finds_33 ca, k_X8_finds_34 ca, k_X8_finds_35 ca, k_X8_finds_38 ca, k_X8_finds_39 ca, k_X8_finds_40 ca, k_X8_finds_43 ca, k_X8_finds_46 ca, k_X8_finds_49 ca, k_X8_finds_52 ca, k_X8_finds_53 ca, e9, g2, a_1]
          try clear hF hF0 F
          exact k0
        | succ r2 ih2 =>
          intro T hT hPT hmin2
          exact try1 P T (by omega) (by omega) hPT (by omega) (fun _ => ⟨hmin, hmin2⟩) (fun q => ih2 (T + 1) (by omega) (by omega) (fun T' h1 h2 => by
            by_cases z : T' = T
            · rw [z]; exact q
            · exact hmin2 T' h1 (by omega)))
      have k0 := tot (8 * P + 1) P (by omega) (Nat.le_refl _) (fun T' h1 h2 => absurd h2 (by omega))
      refine goN go (stp [13]) 160 _ _ _ _ _ _ (fun F hF hF0 => ?_)
      simp only [hF, hF0, ite_not, i_push, i_iload, i_lload, i_aload, i_istore, i_astore, i_lstore, i_iinc, i_bin, i_dv, i_un, i_lbin, i_lsh, i_i2l, i_l2i, i_lcmp, i_dup, i_dup2, i_pop, i_if, i_icmp, i_goto, swG, i_sw, i_getf, i_puti, i_putz, i_putr, i_ald, i_lald, i_aald, i_ast, i_last, i_aast, i_alen, i_new, i_newi, i_newl, i_newq, i_oinit, i_ret, i_zret, i_lret, i_vret, catS, tk, rpush, isO, i_m1, i_m2, i_acopy, i_callV, i_callS, KRet, lget, lput, lputL, lcl0, isL, lv0, List.map_cons, List.map_nil, List.length_cons, List.length_nil, List.cons_append, List.nil_append, Nat.reduceAdd, Nat.reduceSub, Nat.reduceLeDiff, List.replicate_succ, List.replicate_zero, List.getElem?_cons_succ, List.getElem?_cons_zero, List.set_cons_succ, List.set_cons_zero, true_and, and_true, if_true, if_false, ↓reduceIte, Nat.le_refl, Value.category, va_up_app, eq_self, stp, Nat.reduceBEq, Bool.or_false, Bool.false_or, Bool.true_or, Bool.or_true, or_true, true_or, bx_uu, implies_true, true_implies, not_true, not_false_eq_true, false_implies, and_self, Nat.reduceLT, Int32.reduceAdd, Int32.reduceSub, Int32.reduceMul, Int32.reduceLE, Int32.reduceLT, Int32.reduceToNatClampNeg, va_rf_some, Bool.false_eq_true, k_X8_finds_0 ca, k_X8_finds_1 ca, k_X8_finds_4 ca, k_X8_finds_5 ca, k_X8_finds_6 ca, k_X8_finds_7 ca, k_X8_finds_8 ca, k_X8_finds_11 ca, k_X8_finds_12 ca, k_X8_finds_13 ca, k_X8_finds_14 ca, k_X8_finds_16 ca, k_X8_finds_17 ca, k_X8_finds_18 ca, k_X8_finds_21 ca, k_X8_finds_22 ca, k_X8_finds_23 ca, k_X8_finds_24 ca, k_X8_finds_25 ca, k_X8_finds_28 ca, k_X8_finds_31 ca, k_X8_finds_32 ca, k_X8_finds_33 ca, k_X8_finds_34 ca, k_X8_finds_35 ca, k_X8_finds_38 ca, k_X8_finds_39 ca, k_X8_finds_40 ca, k_X8_finds_43 ca, k_X8_finds_46 ca, k_X8_finds_49 ca, k_X8_finds_52 ca, k_X8_finds_53 ca, g1]
      try clear hF hF0 F
      exact k0
  have k0 := all 4 0 (by omega) (fun P' T' h1 => absurd h1 (by omega)) none
  rw [nI_0] at k0
  refine goN go (stp [6]) 160 _ _ _ _ _ _ (fun F hF hF0 => ?_)
  simp only [hF, hF0, ite_not, i_push, i_iload, i_lload, i_aload, i_istore, i_astore, i_lstore, i_iinc, i_bin, i_dv, i_un, i_lbin, i_lsh, i_i2l, i_l2i, i_lcmp, i_dup, i_dup2, i_pop, i_if, i_icmp, i_goto, swG, i_sw, i_getf, i_puti, i_putz, i_putr, i_ald, i_lald, i_aald, i_ast, i_last, i_aast, i_alen, i_new, i_newi, i_newl, i_newq, i_oinit, i_ret, i_zret, i_lret, i_vret, catS, tk, rpush, isO, i_m1, i_m2, i_acopy, i_callV, i_callS, KRet, lget, lput, lputL, lcl0, isL, lv0, List.map_cons, List.map_nil, List.length_cons, List.length_nil, List.cons_append, List.nil_append, Nat.reduceAdd, Nat.reduceSub, Nat.reduceLeDiff, List.replicate_succ, List.replicate_zero, List.getElem?_cons_succ, List.getElem?_cons_zero, List.set_cons_succ, List.set_cons_zero, true_and, and_true, if_true, if_false, ↓reduceIte, Nat.le_refl, Value.category, va_up_app, eq_self, stp, Nat.reduceBEq, Bool.or_false, Bool.false_or, Bool.true_or, Bool.or_true, or_true, true_or, bx_uu, implies_true, true_implies, not_true, not_false_eq_true, false_implies, and_self, Nat.reduceLT, Int32.reduceAdd, Int32.reduceSub, Int32.reduceMul, Int32.reduceLE, Int32.reduceLT, Int32.reduceToNatClampNeg, va_rf_some, Bool.false_eq_true, k_X8_finds_0 ca, k_X8_finds_1 ca, k_X8_finds_4 ca, k_X8_finds_5 ca, k_X8_finds_6 ca, k_X8_finds_7 ca, k_X8_finds_8 ca, k_X8_finds_11 ca, k_X8_finds_12 ca, k_X8_finds_13 ca, k_X8_finds_14 ca, k_X8_finds_16 ca, k_X8_finds_17 ca, k_X8_finds_18 ca, k_X8_finds_21 ca, k_X8_finds_22 ca, k_X8_finds_23 ca, k_X8_finds_24 ca, k_X8_finds_25 ca, k_X8_finds_28 ca, k_X8_finds_31 ca, k_X8_finds_32 ca, k_X8_finds_33 ca, k_X8_finds_34 ca, k_X8_finds_35 ca, k_X8_finds_38 ca, k_X8_finds_39 ca, k_X8_finds_40 ca, k_X8_finds_43 ca, k_X8_finds_46 ca, k_X8_finds_49 ca, k_X8_finds_52 ca, k_X8_finds_53 ca]
  try clear hF hF0 F
  exact k0
section
variable {ca : Nat → ClassId} {h : PH} {m : Nat} {a : Nat → Nat} {s g p : Nat → Int32} {t : Nat} {f : Nat → Int32} {n : Nat}
theorem RAg.w7 (I : RI m a) (hR : RAg ca h m a s g p t f n) (k' : Nat → Int32) : RAg ca (va_up h (a 7) (some (.inl (ca 2, 61, .inl k')))) m a s g p t f n := by
  obtain ⟨fm, at', re, bd, kp, ks, iw, ip, fo, em, e0, e1, e2, e3, e4, e5, e6, e7, e8, e9⟩ := hR
  exact ⟨fm, at', re, bd, kp, ks, k', ip, fo, (va_up_ne _ _ (I.2 7)).trans em, (va_up_ne _ _ (I.ne (by decide))).trans e0, (va_up_ne _ _ (I.ne (by decide))).trans e1, (va_up_ne _ _ (I.ne (by decide))).trans e2, (va_up_ne _ _ (I.ne (by decide))).trans e3, (va_up_ne _ _ (I.ne (by decide))).trans e4, (va_up_ne _ _ (I.ne (by decide))).trans e5, (va_up_ne _ _ (I.ne (by decide))).trans e6, va_up_self _ _ _, (va_up_ne _ _ (I.ne (by decide))).trans e8, (va_up_ne _ _ (I.ne (by decide))).trans e9⟩
theorem RAg.p8 (I : RI m a) (hR : RAg ca h m a s g p t f n) (k' : Nat → Int32) : RAg ca (va_up h (a 8) (some (.inl (ca 2, 18377, .inl k')))) m a s g p t f n := by
  obtain ⟨fm, at', re, bd, kp, ks, iw, ip, fo, em, e0, e1, e2, e3, e4, e5, e6, e7, e8, e9⟩ := hR
  exact ⟨fm, at', re, bd, kp, ks, iw, k', fo, (va_up_ne _ _ (I.2 8)).trans em, (va_up_ne _ _ (I.ne (by decide))).trans e0, (va_up_ne _ _ (I.ne (by decide))).trans e1, (va_up_ne _ _ (I.ne (by decide))).trans e2, (va_up_ne _ _ (I.ne (by decide))).trans e3, (va_up_ne _ _ (I.ne (by decide))).trans e4, (va_up_ne _ _ (I.ne (by decide))).trans e5, (va_up_ne _ _ (I.ne (by decide))).trans e6, (va_up_ne _ _ (I.ne (by decide))).trans e7, va_up_self _ _ _, (va_up_ne _ _ (I.ne (by decide))).trans e9⟩
theorem RAg.f9 (I : RI m a) (hR : RAg ca h m a s g p t f n) (k' : Nat → Int32) : RAg ca (va_up h (a 9) (some (.inl (ca 0, 9, .inl k')))) m a s g p t f n := by
  obtain ⟨fm, at', re, bd, kp, ks, iw, ip, fo, em, e0, e1, e2, e3, e4, e5, e6, e7, e8, e9⟩ := hR
  exact ⟨fm, at', re, bd, kp, ks, iw, ip, k', (va_up_ne _ _ (I.2 9)).trans em, (va_up_ne _ _ (I.ne (by decide))).trans e0, (va_up_ne _ _ (I.ne (by decide))).trans e1, (va_up_ne _ _ (I.ne (by decide))).trans e2, (va_up_ne _ _ (I.ne (by decide))).trans e3, (va_up_ne _ _ (I.ne (by decide))).trans e4, (va_up_ne _ _ (I.ne (by decide))).trans e5, (va_up_ne _ _ (I.ne (by decide))).trans e6, (va_up_ne _ _ (I.ne (by decide))).trans e7, (va_up_ne _ _ (I.ne (by decide))).trans e8, va_up_self _ _ _⟩
end
def stOk (b i w : Int32) : Bool := isIn b (-900) 900 && (!(decide (i < -1)) && (isIn w 0 2 && !(decide (i = -1) && decide (0 < w))))
def stV (kk : Nat → Nat) (I W : Nat) : Int32 := if W = 0 then nI (kk I / 36 + 1) else if W = 1 then nI (kk I / 6 % 6) else nI (kk I % 6)
def stA (P : Nat) (kk : Nat → Nat) (i w : Int32) : Int32 := if i < nI P then (if i < 0 then nI P else stV kk i.toNatClampNeg w.toNatClampNeg) else -10000004
def sp_X8_stack (ca : Nat → ClassId) : SPEC := fun av h post => ∃ m a s p t f n b i w, av = [.ref m, .int b, .int i, .int w] ∧ RI m a ∧ RAt ca h m a s p t f n ∧ NumOk s ∧ (StkNo s b ∨ ∃ P T kk, StkAt s b P T ∧ RowC s P T b kk) ∧
  (stOk b i w = false → post (some (.int (-10000001))) h) ∧
  (stOk b i w = true → StkNo s b → RX ca h m a s p t f n post (-10000004)) ∧
  (stOk b i w = true → ∀ P T kk, StkAt s b P T → RowC s P T b kk → RX ca h m a s p t f n post (stA P kk i w))
def k_X8_stack (ca : Nat → ClassId) : Nat → IT := fun pc => lk pc [(0, i_iload 1 1),
  (1, i_push (.int (-900)) 4),
  (4, i_push (.int 900) 7),
  (7, i_callS 3 0 0 0 0 (sp_X8_in ca) 10),
  (10, i_if (fun x => x = 0) 36 13),
  (13, i_iload 2 14),
  (14, i_push (.int (-1)) 15),
  (15, i_icmp (fun x y => x < y) 36 18),
  (18, i_iload 3 19),
  (19, i_push (.int 0) 20),
  (20, i_push (.int 2) 21),
  (21, i_callS 3 0 0 0 0 (sp_X8_in ca) 24),
  (24, i_if (fun x => x = 0) 36 27),
  (27, i_iload 2 28),
  (28, i_push (.int (-1)) 29),
  (29, i_icmp (fun x y => ¬ x = y) 39 32),
  (32, i_iload 3 33),
  (33, i_if (fun x => x ≤ 0) 39 36),
  (36, i_push (.int (-10000001)) 38),
  (38, i_ret),
  (39, i_aload 0 40),
  (40, i_iload 1 41),
  (41, i_callV 8 1 0 0 0 0 (sp_X8_finds ca) 44),
  (44, i_if (fun x => x = 0) 55 47),
  (47, i_iload 2 48),
  (48, i_aload 0 49),
  (49, i_getf 8 12 52),
  (52, i_icmp (fun x y => x < y) 58 55),
  (55, i_push (.int (-10000004)) 57),
  (57, i_ret),
  (58, i_iload 2 59),
  (59, i_if (fun x => 0 ≤ x) 69 62),
  (62, i_aload 0 63),
  (63, i_getf 8 12 66),
  (66, i_goto 79),
  (69, i_aload 0 70),
  (70, i_getf 8 11 73),
  (73, i_push (.int 3) 74),
  (74, i_iload 2 75),
  (75, i_bin (fun x y => x * y) 76),
  (76, i_iload 3 77),
  (77, i_bin (fun x y => x + y) 78),
  (78, i_ald (ca 0) 79),
  (79, i_ret)]
set_option maxRecDepth 20000 in
theorem t_X8_stack : Tb k_X8_stack yX8_stack cX8_stack 4 (some .int) 5 0 0 := by
  intro l D ca A p e s m args below meth c post X
  unfold k_X8_stack
  refine snd_cons (snd_iload_n X dX8_stack_0 rfl) ?_
  refine snd_cons (snd_sipush X dX8_stack_1 (by decide)) ?_
  refine snd_cons (snd_sipush X dX8_stack_4 (by decide)) ?_
  refine snd_cons (snd_callS X (ok_X8_in l D ca) rfl rfl w_702 w_703 w_9 w_704 (by decide) (by decide) dX8_stack_7) ?_
  refine snd_cons (snd_if_eq X dX8_stack_10 (by decide)) ?_
  refine snd_cons (snd_iload_n X dX8_stack_13 rfl) ?_
  refine snd_cons (snd_iconst X dX8_stack_14 (by decide)) ?_
  refine snd_cons (snd_icmp_lt X dX8_stack_15 (by decide)) ?_
  refine snd_cons (snd_iload_n X dX8_stack_18 rfl) ?_
  refine snd_cons (snd_iconst X dX8_stack_19 (by decide)) ?_
  refine snd_cons (snd_iconst X dX8_stack_20 (by decide)) ?_
  refine snd_cons (snd_callS X (ok_X8_in l D ca) rfl rfl w_702 w_703 w_9 w_704 (by decide) (by decide) dX8_stack_21) ?_
  refine snd_cons (snd_if_eq X dX8_stack_24 (by decide)) ?_
  refine snd_cons (snd_iload_n X dX8_stack_27 rfl) ?_
  refine snd_cons (snd_iconst X dX8_stack_28 (by decide)) ?_
  refine snd_cons (snd_icmp_ne X dX8_stack_29 (by decide)) ?_
  refine snd_cons (snd_iload_n X dX8_stack_32 rfl) ?_
  refine snd_cons (snd_if_le X dX8_stack_33 (by decide)) ?_
  refine snd_cons (snd_ldc X w_709 dX8_stack_36) ?_
  refine snd_cons (snd_ret X dX8_stack_38) ?_
  refine snd_cons (snd_aload_n X dX8_stack_39 rfl) ?_
  refine snd_cons (snd_iload_n X dX8_stack_40 rfl) ?_
  refine snd_cons (snd_callV X Fk8 (ok_X8_finds l D ca) rfl rfl w_898 w_900 wp_42 w_9 w_901 (by decide) (by decide) dX8_stack_41) ?_
  refine snd_cons (snd_if_eq X dX8_stack_44 (by decide)) ?_
  refine snd_cons (snd_iload_n X dX8_stack_47 rfl) ?_
  refine snd_cons (snd_aload_n X dX8_stack_48 rfl) ?_
  refine snd_cons (snd_getf X Fk8 12 (by decide) w_659 dX8_stack_49) ?_
  refine snd_cons (snd_icmp_lt X dX8_stack_52 (by decide)) ?_
  refine snd_cons (snd_ldc X w_857 dX8_stack_55) ?_
  refine snd_cons (snd_ret X dX8_stack_57) ?_
  refine snd_cons (snd_iload_n X dX8_stack_58 rfl) ?_
  refine snd_cons (snd_if_ge X dX8_stack_59 (by decide)) ?_
  refine snd_cons (snd_aload_n X dX8_stack_62 rfl) ?_
  refine snd_cons (snd_getf X Fk8 12 (by decide) w_659 dX8_stack_63) ?_
  refine snd_cons (snd_goto X dX8_stack_66 (by decide)) ?_
  refine snd_cons (snd_aload_n X dX8_stack_69 rfl) ?_
  refine snd_cons (snd_getf X Fk8 11 (by decide) w_658 dX8_stack_70) ?_
  refine snd_cons (snd_iconst X dX8_stack_73 (by decide)) ?_
  refine snd_cons (snd_iload_n X dX8_stack_74 rfl) ?_
  refine snd_cons (snd_imul X dX8_stack_75) ?_
  refine snd_cons (snd_iload_n X dX8_stack_76 rfl) ?_
  refine snd_cons (snd_iadd X dX8_stack_77) ?_
  refine snd_cons (snd_iaload X dX8_stack_78) ?_
  refine snd_cons (snd_ret X dX8_stack_79) ?_
  exact snd_nil
theorem k_X8_stack_0 (ca : Nat → ClassId) : k_X8_stack ca 0 = i_iload 1 1 := rfl
theorem k_X8_stack_1 (ca : Nat → ClassId) : k_X8_stack ca 1 = i_push (.int (-900)) 4 := rfl
theorem k_X8_stack_4 (ca : Nat → ClassId) : k_X8_stack ca 4 = i_push (.int 900) 7 := rfl
theorem k_X8_stack_7 (ca : Nat → ClassId) : k_X8_stack ca 7 = i_callS 3 0 0 0 0 (sp_X8_in ca) 10 := rfl
theorem k_X8_stack_10 (ca : Nat → ClassId) : k_X8_stack ca 10 = i_if (fun x => x = 0) 36 13 := rfl
theorem k_X8_stack_13 (ca : Nat → ClassId) : k_X8_stack ca 13 = i_iload 2 14 := rfl
theorem k_X8_stack_14 (ca : Nat → ClassId) : k_X8_stack ca 14 = i_push (.int (-1)) 15 := rfl
theorem k_X8_stack_15 (ca : Nat → ClassId) : k_X8_stack ca 15 = i_icmp (fun x y => x < y) 36 18 := rfl
theorem k_X8_stack_18 (ca : Nat → ClassId) : k_X8_stack ca 18 = i_iload 3 19 := rfl
theorem k_X8_stack_19 (ca : Nat → ClassId) : k_X8_stack ca 19 = i_push (.int 0) 20 := rfl
theorem k_X8_stack_20 (ca : Nat → ClassId) : k_X8_stack ca 20 = i_push (.int 2) 21 := rfl
theorem k_X8_stack_21 (ca : Nat → ClassId) : k_X8_stack ca 21 = i_callS 3 0 0 0 0 (sp_X8_in ca) 24 := rfl
theorem k_X8_stack_24 (ca : Nat → ClassId) : k_X8_stack ca 24 = i_if (fun x => x = 0) 36 27 := rfl
theorem k_X8_stack_27 (ca : Nat → ClassId) : k_X8_stack ca 27 = i_iload 2 28 := rfl
theorem k_X8_stack_28 (ca : Nat → ClassId) : k_X8_stack ca 28 = i_push (.int (-1)) 29 := rfl
theorem k_X8_stack_29 (ca : Nat → ClassId) : k_X8_stack ca 29 = i_icmp (fun x y => ¬ x = y) 39 32 := rfl
theorem k_X8_stack_32 (ca : Nat → ClassId) : k_X8_stack ca 32 = i_iload 3 33 := rfl
theorem k_X8_stack_33 (ca : Nat → ClassId) : k_X8_stack ca 33 = i_if (fun x => x ≤ 0) 39 36 := rfl
theorem k_X8_stack_36 (ca : Nat → ClassId) : k_X8_stack ca 36 = i_push (.int (-10000001)) 38 := rfl
theorem k_X8_stack_38 (ca : Nat → ClassId) : k_X8_stack ca 38 = i_ret := rfl
theorem k_X8_stack_39 (ca : Nat → ClassId) : k_X8_stack ca 39 = i_aload 0 40 := rfl
theorem k_X8_stack_40 (ca : Nat → ClassId) : k_X8_stack ca 40 = i_iload 1 41 := rfl
theorem k_X8_stack_41 (ca : Nat → ClassId) : k_X8_stack ca 41 = i_callV 8 1 0 0 0 0 (sp_X8_finds ca) 44 := rfl
theorem k_X8_stack_44 (ca : Nat → ClassId) : k_X8_stack ca 44 = i_if (fun x => x = 0) 55 47 := rfl
theorem k_X8_stack_47 (ca : Nat → ClassId) : k_X8_stack ca 47 = i_iload 2 48 := rfl
theorem k_X8_stack_48 (ca : Nat → ClassId) : k_X8_stack ca 48 = i_aload 0 49 := rfl
theorem k_X8_stack_49 (ca : Nat → ClassId) : k_X8_stack ca 49 = i_getf 8 12 52 := rfl
theorem k_X8_stack_52 (ca : Nat → ClassId) : k_X8_stack ca 52 = i_icmp (fun x y => x < y) 58 55 := rfl
theorem k_X8_stack_55 (ca : Nat → ClassId) : k_X8_stack ca 55 = i_push (.int (-10000004)) 57 := rfl
theorem k_X8_stack_57 (ca : Nat → ClassId) : k_X8_stack ca 57 = i_ret := rfl
theorem k_X8_stack_58 (ca : Nat → ClassId) : k_X8_stack ca 58 = i_iload 2 59 := rfl
theorem k_X8_stack_59 (ca : Nat → ClassId) : k_X8_stack ca 59 = i_if (fun x => 0 ≤ x) 69 62 := rfl
theorem k_X8_stack_62 (ca : Nat → ClassId) : k_X8_stack ca 62 = i_aload 0 63 := rfl
theorem k_X8_stack_63 (ca : Nat → ClassId) : k_X8_stack ca 63 = i_getf 8 12 66 := rfl
theorem k_X8_stack_66 (ca : Nat → ClassId) : k_X8_stack ca 66 = i_goto 79 := rfl
theorem k_X8_stack_69 (ca : Nat → ClassId) : k_X8_stack ca 69 = i_aload 0 70 := rfl
theorem k_X8_stack_70 (ca : Nat → ClassId) : k_X8_stack ca 70 = i_getf 8 11 73 := rfl
theorem k_X8_stack_73 (ca : Nat → ClassId) : k_X8_stack ca 73 = i_push (.int 3) 74 := rfl
theorem k_X8_stack_74 (ca : Nat → ClassId) : k_X8_stack ca 74 = i_iload 2 75 := rfl
theorem k_X8_stack_75 (ca : Nat → ClassId) : k_X8_stack ca 75 = i_bin (fun x y => x * y) 76 := rfl
theorem k_X8_stack_76 (ca : Nat → ClassId) : k_X8_stack ca 76 = i_iload 3 77 := rfl
theorem k_X8_stack_77 (ca : Nat → ClassId) : k_X8_stack ca 77 = i_bin (fun x y => x + y) 78 := rfl
theorem k_X8_stack_78 (ca : Nat → ClassId) : k_X8_stack ca 78 = i_ald (ca 0) 79 := rfl
theorem k_X8_stack_79 (ca : Nat → ClassId) : k_X8_stack ca 79 = i_ret := rfl
set_option maxHeartbeats 4000000 in
set_option maxRecDepth 20000 in
theorem ok_X8_stack (l : Launch) (D : va_G) (ca : Nat → ClassId) : OkAll l D ca yX8_stack cX8_stack 4 (some .int) 5 0 0 (sp_X8_stack ca) := by
  intro av h post hs
  obtain ⟨m, a, s, p, t, f, n, b, i, w, rfl, I, ⟨g, hR⟩, hN, hst, hA, hB, hC⟩ := hs
  obtain ⟨fm, at', re, bd, kp, ks, iw, ip, fo, em, e0, e1, e2, e3, e4, e5, e6, e7, e8, e9⟩ := id hR
  have em' := em
  unfold eMod at em'
  refine okM_of t_X8_stack (by decide +kernel) (c1_ref (c1_int (c1_int (c1_int c1_nil)))) (Nat.le_of_ble_eq_true rfl) ?_
  intro K go
  have main : stOk b i w = true → isIn w 0 2 = true → ¬ i < -1 → K 0 0 39 [some (.ref m), some (.int b), some (.int i), some (.int w)] [] h := by
    intro hok hw2 hi1
    have hB := hB hok
    have hC := hC hok
    clear hA
    refine goN go (stp [44]) 160 _ _ _ _ _ _ (fun F hF hF0 => ?_)
    simp only [hF, hF0, ite_not, i_push, i_iload, i_lload, i_aload, i_istore, i_astore, i_lstore, i_iinc, i_bin, i_dv, i_un, i_lbin, i_lsh, i_i2l, i_l2i, i_lcmp, i_dup, i_dup2, i_pop, i_if, i_icmp, i_goto, swG, i_sw, i_getf, i_puti, i_putz, i_putr, i_ald, i_lald, i_aald, i_ast, i_last, i_aast, i_alen, i_new, i_newi, i_newl, i_newq, i_oinit, i_ret, i_zret, i_lret, i_vret, catS, tk, rpush, isO, i_m1, i_m2, i_acopy, i_callV, i_callS, KRet, lget, lput, lputL, lcl0, isL, lv0, List.map_cons, List.map_nil, List.length_cons, List.length_nil, List.cons_append, List.nil_append, Nat.reduceAdd, Nat.reduceSub, Nat.reduceLeDiff, List.replicate_succ, List.replicate_zero, List.getElem?_cons_succ, List.getElem?_cons_zero, List.set_cons_succ, List.set_cons_zero, true_and, and_true, if_true, if_false, ↓reduceIte, Nat.le_refl, Value.category, va_up_app, eq_self, stp, Nat.reduceBEq, Bool.or_false, Bool.false_or, Bool.true_or, Bool.or_true, or_true, true_or, bx_uu, implies_true, true_implies, not_true, not_false_eq_true, false_implies, and_self, Nat.reduceLT, Int32.reduceAdd, Int32.reduceSub, Int32.reduceMul, Int32.reduceLE, Int32.reduceLT, Int32.reduceToNatClampNeg, va_rf_some, Bool.false_eq_true, k_X8_stack_0 ca, k_X8_stack_1 ca, k_X8_stack_4 ca, k_X8_stack_7 ca, k_X8_stack_10 ca, k_X8_stack_13 ca, k_X8_stack_14 ca, k_X8_stack_15 ca, k_X8_stack_18 ca, k_X8_stack_19 ca, k_X8_stack_20 ca, k_X8_stack_21 ca, k_X8_stack_24 ca, k_X8_stack_27 ca, k_X8_stack_28 ca, k_X8_stack_29 ca, k_X8_stack_32 ca, k_X8_stack_33 ca, k_X8_stack_36 ca, k_X8_stack_38 ca, k_X8_stack_39 ca, k_X8_stack_40 ca, k_X8_stack_41 ca, k_X8_stack_44 ca, k_X8_stack_47 ca, k_X8_stack_48 ca, k_X8_stack_49 ca, k_X8_stack_52 ca, k_X8_stack_55 ca, k_X8_stack_57 ca, k_X8_stack_58 ca, k_X8_stack_59 ca, k_X8_stack_62 ca, k_X8_stack_63 ca, k_X8_stack_66 ca, k_X8_stack_69 ca, k_X8_stack_70 ca, k_X8_stack_73 ca, k_X8_stack_74 ca, k_X8_stack_75 ca, k_X8_stack_76 ca, k_X8_stack_77 ca, k_X8_stack_78 ca, k_X8_stack_79 ca, em']
    try clear hF hF0 F
    refine ⟨m, a, nI t, nI n, fm, at', re, s, iw, ip, fo, b, rfl, I, em, e0, e7, e8, e9, hN, ?_⟩
    rcases hst with hno | ⟨P, T, kk, hat, hrow⟩
    · refine Or.inl ⟨hno, fun iw' ip' => ?_⟩
      have k0 := hB hno _ ⟨g, (hR.w7 I iw').p8 I ip'⟩ ((SmR.a (by decide) _).tr (SmR.a (by decide) _))
      refine goN go (stp []) 160 _ _ _ _ _ _ (fun F hF hF0 => ?_)
      simp only [hF, hF0, ite_not, i_push, i_iload, i_lload, i_aload, i_istore, i_astore, i_lstore, i_iinc, i_bin, i_dv, i_un, i_lbin, i_lsh, i_i2l, i_l2i, i_lcmp, i_dup, i_dup2, i_pop, i_if, i_icmp, i_goto, swG, i_sw, i_getf, i_puti, i_putz, i_putr, i_ald, i_lald, i_aald, i_ast, i_last, i_aast, i_alen, i_new, i_newi, i_newl, i_newq, i_oinit, i_ret, i_zret, i_lret, i_vret, catS, tk, rpush, isO, i_m1, i_m2, i_acopy, i_callV, i_callS, KRet, lget, lput, lputL, lcl0, isL, lv0, List.map_cons, List.map_nil, List.length_cons, List.length_nil, List.cons_append, List.nil_append, Nat.reduceAdd, Nat.reduceSub, Nat.reduceLeDiff, List.replicate_succ, List.replicate_zero, List.getElem?_cons_succ, List.getElem?_cons_zero, List.set_cons_succ, List.set_cons_zero, true_and, and_true, if_true, if_false, ↓reduceIte, Nat.le_refl, Value.category, va_up_app, eq_self, stp, Nat.reduceBEq, Bool.or_false, Bool.false_or, Bool.true_or, Bool.or_true, or_true, true_or, bx_uu, implies_true, true_implies, not_true, not_false_eq_true, false_implies, and_self, Nat.reduceLT, Int32.reduceAdd, Int32.reduceSub, Int32.reduceMul, Int32.reduceLE, Int32.reduceLT, Int32.reduceToNatClampNeg, va_rf_some, Bool.false_eq_true, k_X8_stack_0 ca, k_X8_stack_1 ca, k_X8_stack_4 ca, k_X8_stack_7 ca, k_X8_stack_10 ca, k_X8_stack_13 ca, k_X8_stack_14 ca, k_X8_stack_15 ca, k_X8_stack_18 ca, k_X8_stack_19 ca, k_X8_stack_20 ca, k_X8_stack_21 ca, k_X8_stack_24 ca, k_X8_stack_27 ca, k_X8_stack_28 ca, k_X8_stack_29 ca, k_X8_stack_32 ca, k_X8_stack_33 ca, k_X8_stack_36 ca, k_X8_stack_38 ca, k_X8_stack_39 ca, k_X8_stack_40 ca, k_X8_stack_41 ca, k_X8_stack_44 ca, k_X8_stack_47 ca, k_X8_stack_48 ca, k_X8_stack_49 ca, k_X8_stack_52 ca, k_X8_stack_55 ca, k_X8_stack_57 ca, k_X8_stack_58 ca, k_X8_stack_59 ca, k_X8_stack_62 ca, k_X8_stack_63 ca, k_X8_stack_66 ca, k_X8_stack_69 ca, k_X8_stack_70 ca, k_X8_stack_73 ca, k_X8_stack_74 ca, k_X8_stack_75 ca, k_X8_stack_76 ca, k_X8_stack_77 ca, k_X8_stack_78 ca, k_X8_stack_79 ca]
      try clear hF hF0 F
      exact k0
    · refine Or.inr ⟨P, T, kk, hat, hrow, fun iw' ip' fo' hf => ?_⟩
      have hR2 := (((hR.w7 I iw').p8 I ip').mm I t n (nI P) at' re).f9 I fo'
      have k0 := hC P T kk hat hrow _ ⟨g, hR2⟩ ((SmR.a (by decide) _).tr ((SmR.a (by decide) _).tr ((SmR.m _).tr (SmR.a (by decide) _))))
      have em2 : va_up (va_up (va_up (va_up h (a 7) (some (.inl (ca 2, 61, .inl iw')))) (a 8) (some (.inl (ca 2, 18377, .inl ip')))) m (some (eMod a (nI t) (nI n) (nI P) at' re))) (a 9) (some (.inl (ca 0, 9, .inl fo'))) m = some (eMod a (nI t) (nI n) (nI P) at' re) := (va_up_ne _ _ (I.2 9)).trans (va_up_self _ _ _)
      have e92 : va_up (va_up (va_up (va_up h (a 7) (some (.inl (ca 2, 61, .inl iw')))) (a 8) (some (.inl (ca 2, 18377, .inl ip')))) m (some (eMod a (nI t) (nI n) (nI P) at' re))) (a 9) (some (.inl (ca 0, 9, .inl fo'))) (a 9) = some (.inl (ca 0, 9, .inl fo')) := va_up_self _ _ _
      generalize va_up (va_up (va_up (va_up h (a 7) (some (.inl (ca 2, 61, .inl iw')))) (a 8) (some (.inl (ca 2, 18377, .inl ip')))) m (some (eMod a (nI t) (nI n) (nI P) at' re))) (a 9) (some (.inl (ca 0, 9, .inl fo'))) = H at *
      unfold eMod at em2
      unfold stA at k0
      by_cases q1 : i < nI P
      · rw [if_pos q1] at k0
        by_cases q2 : i < 0
        · rw [if_pos q2] at k0
          have g2 : (0 ≤ i) = False := eq_false (Int32.not_le.mpr q2)
          refine goN go (stp []) 160 _ _ _ _ _ _ (fun F hF hF0 => ?_)
          simp only [hF, hF0, ite_not, i_push, i_iload, i_lload, i_aload, i_istore, i_astore, i_lstore, i_iinc, i_bin, i_dv, i_un, i_lbin, i_lsh, i_i2l, i_l2i, i_lcmp, i_dup, i_dup2, i_pop, i_if, i_icmp, i_goto, swG, i_sw, i_getf, i_puti, i_putz, i_putr, i_ald, i_lald, i_aald, i_ast, i_last, i_aast, i_alen, i_new, i_newi, i_newl, i_newq, i_oinit, i_ret, i_zret, i_lret, i_vret, catS, tk, rpush, isO, i_m1, i_m2, i_acopy, i_callV, i_callS, KRet, lget, lput, lputL, lcl0, isL, lv0, List.map_cons, List.map_nil, List.length_cons, List.length_nil, List.cons_append, List.nil_append, Nat.reduceAdd, Nat.reduceSub, Nat.reduceLeDiff, List.replicate_succ, List.replicate_zero, List.getElem?_cons_succ, List.getElem?_cons_zero, List.set_cons_succ, List.set_cons_zero, true_and, and_true, if_true, if_false, ↓reduceIte, Nat.le_refl, Value.category, va_up_app, eq_self, stp, Nat.reduceBEq, Bool.or_false, Bool.false_or, Bool.true_or, Bool.or_true, or_true, true_or, bx_uu, implies_true, true_implies, not_true, not_false_eq_true, false_implies, and_self, Nat.reduceLT, Int32.reduceAdd, Int32.reduceSub, Int32.reduceMul, Int32.reduceLE, Int32.reduceLT, Int32.reduceToNatClampNeg, va_rf_some, Bool.false_eq_true, k_X8_stack_0 ca, k_X8_stack_1 ca, k_X8_stack_4 ca, k_X8_stack_7 ca, k_X8_stack_10 ca, k_X8_stack_13 ca, k_X8_stack_14 ca, k_X8_stack_15 ca, k_X8_stack_18 ca, k_X8_stack_19 ca, k_X8_stack_20 ca, k_X8_stack_21 ca, k_X8_stack_24 ca, k_X8_stack_27 ca, k_X8_stack_28 ca, k_X8_stack_29 ca, k_X8_stack_32 ca, k_X8_stack_33 ca, k_X8_stack_36 ca, k_X8_stack_38 ca, k_X8_stack_39 ca, k_X8_stack_40 ca, k_X8_stack_41 ca, k_X8_stack_44 ca, k_X8_stack_47 ca, k_X8_stack_48 ca, k_X8_stack_49 ca, k_X8_stack_52 ca, k_X8_stack_55 ca, k_X8_stack_57 ca, k_X8_stack_58 ca, k_X8_stack_59 ca, k_X8_stack_62 ca, k_X8_stack_63 ca, k_X8_stack_66 ca, k_X8_stack_69 ca, k_X8_stack_70 ca, k_X8_stack_73 ca, k_X8_stack_74 ca, k_X8_stack_75 ca, k_X8_stack_76 ca, k_X8_stack_77 ca, k_X8_stack_78 ca, k_X8_stack_79 ca, one0, em2, q1, g2]
          try clear hF hF0 F
          exact k0
        · rw [if_neg q2] at k0
          have g2 : (0 ≤ i) = True := eq_true (Int32.not_lt.mp q2)
          obtain ⟨J, hJ, rfl, eJ⟩ := tnI q2
          obtain ⟨W, hW, rfl⟩ := isIn0 (B := 2) rfl hw2
          have xw : (nI W).toNatClampNeg = W := nI_clamp (by omega)
          rw [eJ, xw] at k0
          have hJP : J < P := (nI_ltI hJ (by have := hat.1; omega)).mp q1
          have hP3 := hat.1
          have m3 : (3 : Int32) * nI J = nI (3 * J) := m_3
          have z0 : vp_in (nI (3 * J + W)) 9 := vp_in_nI (by omega) (by decide)
          have z1 : (nI (3 * J + W)).toNatClampNeg = 3 * J + W := nI_clamp (by omega)
          have hv : fo' (3 * J + W) = stV kk J W := by
            obtain ⟨x, y, z⟩ := hf J hJP
            unfold stV
            have hw3 : W = 0 ∨ W = 1 ∨ W = 2 := by omega
            rcases hw3 with rfl | rfl | rfl
            · rw [if_pos rfl]; exact x
            · rw [if_neg (by decide), if_pos rfl]; exact y
            · rw [if_neg (by decide), if_neg (by decide)]; exact z
          refine goN go (stp []) 160 _ _ _ _ _ _ (fun F hF hF0 => ?_)
          simp only [hF, hF0, ite_not, i_push, i_iload, i_lload, i_aload, i_istore, i_astore, i_lstore, i_iinc, i_bin, i_dv, i_un, i_lbin, i_lsh, i_i2l, i_l2i, i_lcmp, i_dup, i_dup2, i_pop, i_if, i_icmp, i_goto, swG, i_sw, i_getf, i_puti, i_putz, i_putr, i_ald, i_lald, i_aald, i_ast, i_last, i_aast, i_alen, i_new, i_newi, i_newl, i_newq, i_oinit, i_ret, i_zret, i_lret, i_vret, catS, tk, rpush, isO, i_m1, i_m2, i_acopy, i_callV, i_callS, KRet, lget, lput, lputL, lcl0, isL, lv0, List.map_cons, List.map_nil, List.length_cons, List.length_nil, List.cons_append, List.nil_append, Nat.reduceAdd, Nat.reduceSub, Nat.reduceLeDiff, List.replicate_succ, List.replicate_zero, List.getElem?_cons_succ, List.getElem?_cons_zero, List.set_cons_succ, List.set_cons_zero, true_and, and_true, if_true, if_false, ↓reduceIte, Nat.le_refl, Value.category, va_up_app, eq_self, stp, Nat.reduceBEq, Bool.or_false, Bool.false_or, Bool.true_or, Bool.or_true, or_true, true_or, bx_uu, implies_true, true_implies, not_true, not_false_eq_true, false_implies, and_self, Nat.reduceLT, Int32.reduceAdd, Int32.reduceSub, Int32.reduceMul, Int32.reduceLE, Int32.reduceLT, Int32.reduceToNatClampNeg, va_rf_some, Bool.false_eq_true, k_X8_stack_0 ca, k_X8_stack_1 ca, k_X8_stack_4 ca, k_X8_stack_7 ca, k_X8_stack_10 ca, k_X8_stack_13 ca, k_X8_stack_14 ca, k_X8_stack_15 ca, k_X8_stack_18 ca, k_X8_stack_19 ca, k_X8_stack_20 ca, k_X8_stack_21 ca, k_X8_stack_24 ca, k_X8_stack_27 ca, k_X8_stack_28 ca, k_X8_stack_29 ca, k_X8_stack_32 ca, k_X8_stack_33 ca, k_X8_stack_36 ca, k_X8_stack_38 ca, k_X8_stack_39 ca, k_X8_stack_40 ca, k_X8_stack_41 ca, k_X8_stack_44 ca, k_X8_stack_47 ca, k_X8_stack_48 ca, k_X8_stack_49 ca, k_X8_stack_52 ca, k_X8_stack_55 ca, k_X8_stack_57 ca, k_X8_stack_58 ca, k_X8_stack_59 ca, k_X8_stack_62 ca, k_X8_stack_63 ca, k_X8_stack_66 ca, k_X8_stack_69 ca, k_X8_stack_70 ca, k_X8_stack_73 ca, k_X8_stack_74 ca, k_X8_stack_75 ca, k_X8_stack_76 ca, k_X8_stack_77 ca, k_X8_stack_78 ca, k_X8_stack_79 ca, one0, em2, e92, q1, g2, m3, nI_add, z0, z1, hv]
          try clear hF hF0 F
          exact k0
      · rw [if_neg q1] at k0
        refine goN go (stp []) 160 _ _ _ _ _ _ (fun F hF hF0 => ?_)
        simp only [hF, hF0, ite_not, i_push, i_iload, i_lload, i_aload, i_istore, i_astore, i_lstore, i_iinc, i_bin, i_dv, i_un, i_lbin, i_lsh, i_i2l, i_l2i, i_lcmp, i_dup, i_dup2, i_pop, i_if, i_icmp, i_goto, swG, i_sw, i_getf, i_puti, i_putz, i_putr, i_ald, i_lald, i_aald, i_ast, i_last, i_aast, i_alen, i_new, i_newi, i_newl, i_newq, i_oinit, i_ret, i_zret, i_lret, i_vret, catS, tk, rpush, isO, i_m1, i_m2, i_acopy, i_callV, i_callS, KRet, lget, lput, lputL, lcl0, isL, lv0, List.map_cons, List.map_nil, List.length_cons, List.length_nil, List.cons_append, List.nil_append, Nat.reduceAdd, Nat.reduceSub, Nat.reduceLeDiff, List.replicate_succ, List.replicate_zero, List.getElem?_cons_succ, List.getElem?_cons_zero, List.set_cons_succ, List.set_cons_zero, true_and, and_true, if_true, if_false, ↓reduceIte, Nat.le_refl, Value.category, va_up_app, eq_self, stp, Nat.reduceBEq, Bool.or_false, Bool.false_or, Bool.true_or, Bool.or_true, or_true, true_or, bx_uu, implies_true, true_implies, not_true, not_false_eq_true, false_implies, and_self, Nat.reduceLT, Int32.reduceAdd, Int32.reduceSub, Int32.reduceMul, Int32.reduceLE, Int32.reduceLT, Int32.reduceToNatClampNeg, va_rf_some, Bool.false_eq_true, k_X8_stack_0 ca, k_X8_stack_1 ca, k_X8_stack_4 ca, k_X8_stack_7 ca, k_X8_stack_10 ca, k_X8_stack_13 ca, k_X8_stack_14 ca, k_X8_stack_15 ca, k_X8_stack_18 ca, k_X8_stack_19 ca, k_X8_stack_20 ca, k_X8_stack_21 ca, k_X8_stack_24 ca, k_X8_stack_27 ca, k_X8_stack_28 ca, k_X8_stack_29 ca, k_X8_stack_32 ca, k_X8_stack_33 ca, k_X8_stack_36 ca, k_X8_stack_38 ca, k_X8_stack_39 ca, k_X8_stack_40 ca, k_X8_stack_41 ca, k_X8_stack_44 ca, k_X8_stack_47 ca, k_X8_stack_48 ca, k_X8_stack_49 ca, k_X8_stack_52 ca, k_X8_stack_55 ca, k_X8_stack_57 ca, k_X8_stack_58 ca, k_X8_stack_59 ca, k_X8_stack_62 ca, k_X8_stack_63 ca, k_X8_stack_66 ca, k_X8_stack_69 ca, k_X8_stack_70 ca, k_X8_stack_73 ca, k_X8_stack_74 ca, k_X8_stack_75 ca, k_X8_stack_76 ca, k_X8_stack_77 ca, k_X8_stack_78 ca, k_X8_stack_79 ca, one0, em2, q1]
        try clear hF hF0 F
        exact k0
  unfold stOk at main hA
  cases q1 : isIn b (-900) 900 with
  | false =>
    have k0 := hA (by rw [q1]; rfl)
    refine goN go (stp [39]) 160 _ _ _ _ _ _ (fun F hF hF0 => ?_)
    simp only [hF, hF0, ite_not, i_push, i_iload, i_lload, i_aload, i_istore, i_astore, i_lstore, i_iinc, i_bin, i_dv, i_un, i_lbin, i_lsh, i_i2l, i_l2i, i_lcmp, i_dup, i_dup2, i_pop, i_if, i_icmp, i_goto, swG, i_sw, i_getf, i_puti, i_putz, i_putr, i_ald, i_lald, i_aald, i_ast, i_last, i_aast, i_alen, i_new, i_newi, i_newl, i_newq, i_oinit, i_ret, i_zret, i_lret, i_vret, catS, tk, rpush, isO, i_m1, i_m2, i_acopy, i_callV, i_callS, KRet, lget, lput, lputL, lcl0, isL, lv0, List.map_cons, List.map_nil, List.length_cons, List.length_nil, List.cons_append, List.nil_append, Nat.reduceAdd, Nat.reduceSub, Nat.reduceLeDiff, List.replicate_succ, List.replicate_zero, List.getElem?_cons_succ, List.getElem?_cons_zero, List.set_cons_succ, List.set_cons_zero, true_and, and_true, if_true, if_false, ↓reduceIte, Nat.le_refl, Value.category, va_up_app, eq_self, stp, Nat.reduceBEq, Bool.or_false, Bool.false_or, Bool.true_or, Bool.or_true, or_true, true_or, bx_uu, implies_true, true_implies, not_true, not_false_eq_true, false_implies, and_self, Nat.reduceLT, Int32.reduceAdd, Int32.reduceSub, Int32.reduceMul, Int32.reduceLE, Int32.reduceLT, Int32.reduceToNatClampNeg, va_rf_some, Bool.false_eq_true, k_X8_stack_0 ca, k_X8_stack_1 ca, k_X8_stack_4 ca, k_X8_stack_7 ca, k_X8_stack_10 ca, k_X8_stack_13 ca, k_X8_stack_14 ca, k_X8_stack_15 ca, k_X8_stack_18 ca, k_X8_stack_19 ca, k_X8_stack_20 ca, k_X8_stack_21 ca, k_X8_stack_24 ca, k_X8_stack_27 ca, k_X8_stack_28 ca, k_X8_stack_29 ca, k_X8_stack_32 ca, k_X8_stack_33 ca, k_X8_stack_36 ca, k_X8_stack_38 ca, k_X8_stack_39 ca, k_X8_stack_40 ca, k_X8_stack_41 ca, k_X8_stack_44 ca, k_X8_stack_47 ca, k_X8_stack_48 ca, k_X8_stack_49 ca, k_X8_stack_52 ca, k_X8_stack_55 ca, k_X8_stack_57 ca, k_X8_stack_58 ca, k_X8_stack_59 ca, k_X8_stack_62 ca, k_X8_stack_63 ca, k_X8_stack_66 ca, k_X8_stack_69 ca, k_X8_stack_70 ca, k_X8_stack_73 ca, k_X8_stack_74 ca, k_X8_stack_75 ca, k_X8_stack_76 ca, k_X8_stack_77 ca, k_X8_stack_78 ca, k_X8_stack_79 ca, sp_X8_in, sp_X7_isWithin, q1, b2i_f]
    try clear hF hF0 F
    exact k0
  | true =>
    rw [q1, Bool.true_and] at main hA
    by_cases q2 : i < -1
    · have k0 := hA (by rw [decide_eq_true q2]; rfl)
      refine goN go (stp [39]) 160 _ _ _ _ _ _ (fun F hF hF0 => ?_)
      simp only [hF, hF0, ite_not, i_push, i_iload, i_lload, i_aload, i_istore, i_astore, i_lstore, i_iinc, i_bin, i_dv, i_un, i_lbin, i_lsh, i_i2l, i_l2i, i_lcmp, i_dup, i_dup2, i_pop, i_if, i_icmp, i_goto, swG, i_sw, i_getf, i_puti, i_putz, i_putr, i_ald, i_lald, i_aald, i_ast, i_last, i_aast, i_alen, i_new, i_newi, i_newl, i_newq, i_oinit, i_ret, i_zret, i_lret, i_vret, catS, tk, rpush, isO, i_m1, i_m2, i_acopy, i_callV, i_callS, KRet, lget, lput, lputL, lcl0, isL, lv0, List.map_cons, List.map_nil, List.length_cons, List.length_nil, List.cons_append, List.nil_append, Nat.reduceAdd, Nat.reduceSub, Nat.reduceLeDiff, List.replicate_succ, List.replicate_zero, List.getElem?_cons_succ, List.getElem?_cons_zero, List.set_cons_succ, List.set_cons_zero, true_and, and_true, if_true, if_false, ↓reduceIte, Nat.le_refl, Value.category, va_up_app, eq_self, stp, Nat.reduceBEq, Bool.or_false, Bool.false_or, Bool.true_or, Bool.or_true, or_true, true_or, bx_uu, implies_true, true_implies, not_true, not_false_eq_true, false_implies, and_self, Nat.reduceLT, Int32.reduceAdd, Int32.reduceSub, Int32.reduceMul, Int32.reduceLE, Int32.reduceLT, Int32.reduceToNatClampNeg, va_rf_some, Bool.false_eq_true, k_X8_stack_0 ca, k_X8_stack_1 ca, k_X8_stack_4 ca, k_X8_stack_7 ca, k_X8_stack_10 ca, k_X8_stack_13 ca, k_X8_stack_14 ca, k_X8_stack_15 ca, k_X8_stack_18 ca, k_X8_stack_19 ca, k_X8_stack_20 ca, k_X8_stack_21 ca, k_X8_stack_24 ca, k_X8_stack_27 ca, k_X8_stack_28 ca, k_X8_stack_29 ca, k_X8_stack_32 ca, k_X8_stack_33 ca, k_X8_stack_36 ca, k_X8_stack_38 ca, k_X8_stack_39 ca, k_X8_stack_40 ca, k_X8_stack_41 ca, k_X8_stack_44 ca, k_X8_stack_47 ca, k_X8_stack_48 ca, k_X8_stack_49 ca, k_X8_stack_52 ca, k_X8_stack_55 ca, k_X8_stack_57 ca, k_X8_stack_58 ca, k_X8_stack_59 ca, k_X8_stack_62 ca, k_X8_stack_63 ca, k_X8_stack_66 ca, k_X8_stack_69 ca, k_X8_stack_70 ca, k_X8_stack_73 ca, k_X8_stack_74 ca, k_X8_stack_75 ca, k_X8_stack_76 ca, k_X8_stack_77 ca, k_X8_stack_78 ca, k_X8_stack_79 ca, sp_X8_in, sp_X7_isWithin, q1, b2i_t, one0, q2]
      try clear hF hF0 F
      exact k0
    · rw [decide_eq_false q2, Bool.not_false, Bool.true_and] at main hA
      cases q3 : isIn w 0 2 with
      | false =>
        have k0 := hA (by rw [q3]; rfl)
        refine goN go (stp [39]) 160 _ _ _ _ _ _ (fun F hF hF0 => ?_)
        simp only [hF, hF0, ite_not, i_push, i_iload, i_lload, i_aload, i_istore, i_astore, i_lstore, i_iinc, i_bin, i_dv, i_un, i_lbin, i_lsh, i_i2l, i_l2i, i_lcmp, i_dup, i_dup2, i_pop, i_if, i_icmp, i_goto, swG, i_sw, i_getf, i_puti, i_putz, i_putr, i_ald, i_lald, i_aald, i_ast, i_last, i_aast, i_alen, i_new, i_newi, i_newl, i_newq, i_oinit, i_ret, i_zret, i_lret, i_vret, catS, tk, rpush, isO, i_m1, i_m2, i_acopy, i_callV, i_callS, KRet, lget, lput, lputL, lcl0, isL, lv0, List.map_cons, List.map_nil, List.length_cons, List.length_nil, List.cons_append, List.nil_append, Nat.reduceAdd, Nat.reduceSub, Nat.reduceLeDiff, List.replicate_succ, List.replicate_zero, List.getElem?_cons_succ, List.getElem?_cons_zero, List.set_cons_succ, List.set_cons_zero, true_and, and_true, if_true, if_false, ↓reduceIte, Nat.le_refl, Value.category, va_up_app, eq_self, stp, Nat.reduceBEq, Bool.or_false, Bool.false_or, Bool.true_or, Bool.or_true, or_true, true_or, bx_uu, implies_true, true_implies, not_true, not_false_eq_true, false_implies, and_self, Nat.reduceLT, Int32.reduceAdd, Int32.reduceSub, Int32.reduceMul, Int32.reduceLE, Int32.reduceLT, Int32.reduceToNatClampNeg, va_rf_some, Bool.false_eq_true, k_X8_stack_0 ca, k_X8_stack_1 ca, k_X8_stack_4 ca, k_X8_stack_7 ca, k_X8_stack_10 ca, k_X8_stack_13 ca, k_X8_stack_14 ca, k_X8_stack_15 ca, k_X8_stack_18 ca, k_X8_stack_19 ca, k_X8_stack_20 ca, k_X8_stack_21 ca, k_X8_stack_24 ca, k_X8_stack_27 ca, k_X8_stack_28 ca, k_X8_stack_29 ca, k_X8_stack_32 ca, k_X8_stack_33 ca, k_X8_stack_36 ca, k_X8_stack_38 ca, k_X8_stack_39 ca, k_X8_stack_40 ca, k_X8_stack_41 ca, k_X8_stack_44 ca, k_X8_stack_47 ca, k_X8_stack_48 ca, k_X8_stack_49 ca, k_X8_stack_52 ca, k_X8_stack_55 ca, k_X8_stack_57 ca, k_X8_stack_58 ca, k_X8_stack_59 ca, k_X8_stack_62 ca, k_X8_stack_63 ca, k_X8_stack_66 ca, k_X8_stack_69 ca, k_X8_stack_70 ca, k_X8_stack_73 ca, k_X8_stack_74 ca, k_X8_stack_75 ca, k_X8_stack_76 ca, k_X8_stack_77 ca, k_X8_stack_78 ca, k_X8_stack_79 ca, sp_X8_in, sp_X7_isWithin, q1, b2i_t, b2i_f, one0, q2, q3]
        try clear hF hF0 F
        exact k0
      | true =>
        rw [q3, Bool.true_and] at main hA
        by_cases q4 : i = -1
        · rw [decide_eq_true q4, Bool.true_and] at main hA
          by_cases q5 : 0 < w
          · have k0 := hA (by rw [decide_eq_true q5]; rfl)
            have g5 : (w ≤ 0) = False := eq_false (Int32.not_le.mpr q5)
            refine goN go (stp [39]) 160 _ _ _ _ _ _ (fun F hF hF0 => ?_)
            simp only [hF, hF0, ite_not, i_push, i_iload, i_lload, i_aload, i_istore, i_astore, i_lstore, i_iinc, i_bin, i_dv, i_un, i_lbin, i_lsh, i_i2l, i_l2i, i_lcmp, i_dup, i_dup2, i_pop, i_if, i_icmp, i_goto, swG, i_sw, i_getf, i_puti, i_putz, i_putr, i_ald, i_lald, i_aald, i_ast, i_last, i_aast, i_alen, i_new, i_newi, i_newl, i_newq, i_oinit, i_ret, i_zret, i_lret, i_vret, catS, tk, rpush, isO, i_m1, i_m2, i_acopy, i_callV, i_callS, KRet, lget, lput, lputL, lcl0, isL, lv0, List.map_cons, List.map_nil, List.length_cons, List.length_nil, List.cons_append, List.nil_append, Nat.reduceAdd, Nat.reduceSub, Nat.reduceLeDiff, List.replicate_succ, List.replicate_zero, List.getElem?_cons_succ, List.getElem?_cons_zero, List.set_cons_succ, List.set_cons_zero, true_and, and_true, if_true, if_false, ↓reduceIte, Nat.le_refl, Value.category, va_up_app, eq_self, stp, Nat.reduceBEq, Bool.or_false, Bool.false_or, Bool.true_or, Bool.or_true, or_true, true_or, bx_uu, implies_true, true_implies, not_true, not_false_eq_true, false_implies, and_self, Nat.reduceLT, Int32.reduceAdd, Int32.reduceSub, Int32.reduceMul, Int32.reduceLE, Int32.reduceLT, Int32.reduceToNatClampNeg, va_rf_some, Bool.false_eq_true, k_X8_stack_0 ca, k_X8_stack_1 ca, k_X8_stack_4 ca, k_X8_stack_7 ca, k_X8_stack_10 ca, k_X8_stack_13 ca, k_X8_stack_14 ca, k_X8_stack_15 ca, k_X8_stack_18 ca, k_X8_stack_19 ca, k_X8_stack_20 ca, k_X8_stack_21 ca, k_X8_stack_24 ca, k_X8_stack_27 ca, k_X8_stack_28 ca, k_X8_stack_29 ca, k_X8_stack_32 ca, k_X8_stack_33 ca, k_X8_stack_36 ca, k_X8_stack_38 ca, k_X8_stack_39 ca, k_X8_stack_40 ca, k_X8_stack_41 ca, k_X8_stack_44 ca, k_X8_stack_47 ca, k_X8_stack_48 ca, k_X8_stack_49 ca, k_X8_stack_52 ca, k_X8_stack_55 ca, k_X8_stack_57 ca, k_X8_stack_58 ca, k_X8_stack_59 ca, k_X8_stack_62 ca, k_X8_stack_63 ca, k_X8_stack_66 ca, k_X8_stack_69 ca, k_X8_stack_70 ca, k_X8_stack_73 ca, k_X8_stack_74 ca, k_X8_stack_75 ca, k_X8_stack_76 ca, k_X8_stack_77 ca, k_X8_stack_78 ca, k_X8_stack_79 ca, sp_X8_in, sp_X7_isWithin, q1, b2i_t, one0, q2, q3, q4, g5]
            try clear hF hF0 F
            exact k0
          · have k0 := main (by rw [decide_eq_false q5]; rfl) rfl q2
            have g5 : (w ≤ 0) = True := eq_true (Int32.not_lt.mp q5)
            rw [q4] at k0 q2
            refine goN go (stp [39]) 160 _ _ _ _ _ _ (fun F hF hF0 => ?_)
            simp only [hF, hF0, ite_not, i_push, i_iload, i_lload, i_aload, i_istore, i_astore, i_lstore, i_iinc, i_bin, i_dv, i_un, i_lbin, i_lsh, i_i2l, i_l2i, i_lcmp, i_dup, i_dup2, i_pop, i_if, i_icmp, i_goto, swG, i_sw, i_getf, i_puti, i_putz, i_putr, i_ald, i_lald, i_aald, i_ast, i_last, i_aast, i_alen, i_new, i_newi, i_newl, i_newq, i_oinit, i_ret, i_zret, i_lret, i_vret, catS, tk, rpush, isO, i_m1, i_m2, i_acopy, i_callV, i_callS, KRet, lget, lput, lputL, lcl0, isL, lv0, List.map_cons, List.map_nil, List.length_cons, List.length_nil, List.cons_append, List.nil_append, Nat.reduceAdd, Nat.reduceSub, Nat.reduceLeDiff, List.replicate_succ, List.replicate_zero, List.getElem?_cons_succ, List.getElem?_cons_zero, List.set_cons_succ, List.set_cons_zero, true_and, and_true, if_true, if_false, ↓reduceIte, Nat.le_refl, Value.category, va_up_app, eq_self, stp, Nat.reduceBEq, Bool.or_false, Bool.false_or, Bool.true_or, Bool.or_true, or_true, true_or, bx_uu, implies_true, true_implies, not_true, not_false_eq_true, false_implies, and_self, Nat.reduceLT, Int32.reduceAdd, Int32.reduceSub, Int32.reduceMul, Int32.reduceLE, Int32.reduceLT, Int32.reduceToNatClampNeg, va_rf_some, Bool.false_eq_true, k_X8_stack_0 ca, k_X8_stack_1 ca, k_X8_stack_4 ca, k_X8_stack_7 ca, k_X8_stack_10 ca, k_X8_stack_13 ca, k_X8_stack_14 ca, k_X8_stack_15 ca, k_X8_stack_18 ca, k_X8_stack_19 ca, k_X8_stack_20 ca, k_X8_stack_21 ca, k_X8_stack_24 ca, k_X8_stack_27 ca, k_X8_stack_28 ca, k_X8_stack_29 ca, k_X8_stack_32 ca, k_X8_stack_33 ca, k_X8_stack_36 ca, k_X8_stack_38 ca, k_X8_stack_39 ca, k_X8_stack_40 ca, k_X8_stack_41 ca, k_X8_stack_44 ca, k_X8_stack_47 ca, k_X8_stack_48 ca, k_X8_stack_49 ca, k_X8_stack_52 ca, k_X8_stack_55 ca, k_X8_stack_57 ca, k_X8_stack_58 ca, k_X8_stack_59 ca, k_X8_stack_62 ca, k_X8_stack_63 ca, k_X8_stack_66 ca, k_X8_stack_69 ca, k_X8_stack_70 ca, k_X8_stack_73 ca, k_X8_stack_74 ca, k_X8_stack_75 ca, k_X8_stack_76 ca, k_X8_stack_77 ca, k_X8_stack_78 ca, k_X8_stack_79 ca, sp_X8_in, sp_X7_isWithin, q1, b2i_t, one0, q2, q3, q4, g5]
            try clear hF hF0 F
            exact k0
        · rw [decide_eq_false q4, Bool.false_and, Bool.not_false] at main
          have k0 := main rfl rfl q2
          refine goN go (stp [39]) 160 _ _ _ _ _ _ (fun F hF hF0 => ?_)
          simp only [hF, hF0, ite_not, i_push, i_iload, i_lload, i_aload, i_istore, i_astore, i_lstore, i_iinc, i_bin, i_dv, i_un, i_lbin, i_lsh, i_i2l, i_l2i, i_lcmp, i_dup, i_dup2, i_pop, i_if, i_icmp, i_goto, swG, i_sw, i_getf, i_puti, i_putz, i_putr, i_ald, i_lald, i_aald, i_ast, i_last, i_aast, i_alen, i_new, i_newi, i_newl, i_newq, i_oinit, i_ret, i_zret, i_lret, i_vret, catS, tk, rpush, isO, i_m1, i_m2, i_acopy, i_callV, i_callS, KRet, lget, lput, lputL, lcl0, isL, lv0, List.map_cons, List.map_nil, List.length_cons, List.length_nil, List.cons_append, List.nil_append, Nat.reduceAdd, Nat.reduceSub, Nat.reduceLeDiff, List.replicate_succ, List.replicate_zero, List.getElem?_cons_succ, List.getElem?_cons_zero, List.set_cons_succ, List.set_cons_zero, true_and, and_true, if_true, if_false, ↓reduceIte, Nat.le_refl, Value.category, va_up_app, eq_self, stp, Nat.reduceBEq, Bool.or_false, Bool.false_or, Bool.true_or, Bool.or_true, or_true, true_or, bx_uu, implies_true, true_implies, not_true, not_false_eq_true, false_implies, and_self, Nat.reduceLT, Int32.reduceAdd, Int32.reduceSub, Int32.reduceMul, Int32.reduceLE, Int32.reduceLT, Int32.reduceToNatClampNeg, va_rf_some, Bool.false_eq_true, k_X8_stack_0 ca, k_X8_stack_1 ca, k_X8_stack_4 ca, k_X8_stack_7 ca, k_X8_stack_10 ca, k_X8_stack_13 ca, k_X8_stack_14 ca, k_X8_stack_15 ca, k_X8_stack_18 ca, k_X8_stack_19 ca, k_X8_stack_20 ca, k_X8_stack_21 ca, k_X8_stack_24 ca, k_X8_stack_27 ca, k_X8_stack_28 ca, k_X8_stack_29 ca, k_X8_stack_32 ca, k_X8_stack_33 ca, k_X8_stack_36 ca, k_X8_stack_38 ca, k_X8_stack_39 ca, k_X8_stack_40 ca, k_X8_stack_41 ca, k_X8_stack_44 ca, k_X8_stack_47 ca, k_X8_stack_48 ca, k_X8_stack_49 ca, k_X8_stack_52 ca, k_X8_stack_55 ca, k_X8_stack_57 ca, k_X8_stack_58 ca, k_X8_stack_59 ca, k_X8_stack_62 ca, k_X8_stack_63 ca, k_X8_stack_66 ca, k_X8_stack_69 ca, k_X8_stack_70 ca, k_X8_stack_73 ca, k_X8_stack_74 ca, k_X8_stack_75 ca, k_X8_stack_76 ca, k_X8_stack_77 ca, k_X8_stack_78 ca, k_X8_stack_79 ca, sp_X8_in, sp_X7_isWithin, q1, b2i_t, one0, q2, q3, q4]
          try clear hF hF0 F
          exact k0
