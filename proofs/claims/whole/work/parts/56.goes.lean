/-! SnapStacksModel: goes -/
def tkI (s r : Nat → Int32) (un : Int32) : Nat → Nat → Int32
  | 0 => s
  | n + 1 => tkM (tkI s r un n) r un
def tkC (s r : Nat → Int32) (un : Int32) : Nat → Int32
  | 0 => 0
  | n + 1 => tkC s r un n + tkMN (tkI s r un n) r un
theorem mvT_4 {t : Nat → Int32} {un by' bend : Int32} (h : t 4 = 0 ∨ t 4 = 1) : mvT t un by' bend 4 = 0 ∨ mvT t un by' bend 4 = 1 := by
  show chSi (t 1) (t 2) (t 3) (t 5) (t 4) bend = 0 ∨ chSi (t 1) (t 2) (t 3) (t 5) (t 4) bend = 1
  unfold chSi
  rcases h with e | e <;> rw [e] <;> (repeat' split) <;> simp
theorem stPM_si {s r : Nat → Int32} {un : Int32} {k : Nat} (h : s (14 + 32 * k) = 0 ∨ s (14 + 32 * k) = 1) : stPM s r un k (14 + 32 * k) = 0 ∨ stPM s r un k (14 + 32 * k) = 1 := by
  unfold stPM plS
  rw [show 14 + 32 * k = 10 + 32 * k + 4 by omega, ovr_in (by decide)]
  exact mvT_4 (by rw [show 10 + 32 * k + 4 = 14 + 32 * k by omega]; exact h)
theorem stRM_o {s v : Nat → Int32} {fi : Bool} {k j : Nat} (h : j < 106 + 7 * k ∨ 113 + 7 * k ≤ j) : stRM s v fi k j = s j := by
  unfold stRM
  rw [ovr_out (by omega)]
theorem stRM_k {s v : Nat → Int32} {fi : Bool} {k i : Nat} (h : i = 1 ∨ i = 2 ∨ i = 3) : stRM s v fi k (106 + 7 * k + i) = s (106 + 7 * k + i) := by
  unfold stRM
  rw [ovr_in (by omega)]
  rcases h with rfl | rfl | rfl
  · show s (107 + 7 * k) = _
    exact congrArg s (by omega)
  · show s (108 + 7 * k) = _
    exact congrArg s (by omega)
  · show s (109 + 7 * k) = _
    exact congrArg s (by omega)
theorem tkRM_f {s v : Nat → Int32} {fi : Bool} {k i : Nat} (hk : k < 3) (h : i = 1 ∨ i = 2 ∨ i = 3) : tkRM s v fi (106 + 7 * k + i) = s (106 + 7 * k + i) := by
  unfold tkRM
  have hk3 : k = 0 ∨ k = 1 ∨ k = 2 := by omega
  rcases hk3 with rfl | rfl | rfl
  · rw [stRM_o (by omega), stRM_o (by omega), stRM_k h]
  · rw [stRM_o (by omega), stRM_k h, stRM_o (by omega)]
  · rw [stRM_k h, stRM_o (by omega), stRM_o (by omega)]
theorem tkM_f {s r : Nat → Int32} {un : Int32} {k i : Nat} (hk : k < 3) (h : i = 1 ∨ i = 2 ∨ i = 3) : tkM s r un (106 + 7 * k + i) = s (106 + 7 * k + i) := by
  unfold tkM
  rw [stPM_o (by omega), stPM_o (by omega), stPM_o (by omega)]
  unfold tkP tk9
  rw [ovr_out (by omega)]
  exact tkRM_f hk h
theorem tkM_6 {s r : Nat → Int32} {un : Int32} {j : Nat} (h : j < 9) : tkM s r un j = s j := by
  unfold tkM
  rw [stPM_o (by omega), stPM_o (by omega), stPM_o (by omega)]
  exact tkP_s (by omega) (by omega)
theorem tkM_si {s r : Nat → Int32} {un : Int32} {k : Nat} (hk : k < 3) (h : s (14 + 32 * k) = 0 ∨ s (14 + 32 * k) = 1) : tkM s r un (14 + 32 * k) = 0 ∨ tkM s r un (14 + 32 * k) = 1 := by
  have h0 : tkP s (14 + 32 * k) = 0 ∨ tkP s (14 + 32 * k) = 1 := by rw [tkP_s (by omega) (by omega)]; exact h
  unfold tkM
  have hk3 : k = 0 ∨ k = 1 ∨ k = 2 := by omega
  rcases hk3 with rfl | rfl | rfl
  · rw [stPM_o (by omega), stPM_o (by omega)]; exact stPM_si h0
  · rw [stPM_o (by omega)]; exact stPM_si (by rw [stPM_o (by omega)]; exact h0)
  · exact stPM_si (by rw [stPM_o (by omega), stPM_o (by omega)]; exact h0)
theorem OkR_tk {s r : Nat → Int32} {un : Int32} (h : ∀ k, k < 3 → OkR s k) : ∀ k, k < 3 → OkR (tkM s r un) k := by
  intro k hk
  obtain ⟨a, b, c, d⟩ := h k hk
  refine ⟨?_, tkM_si hk b, ?_, ?_⟩
  · rw [show 108 + 7 * k = 106 + 7 * k + 2 by omega, tkM_f hk (by omega)]
    rw [show 108 + 7 * k = 106 + 7 * k + 2 by omega] at a; exact a
  · rw [show 109 + 7 * k = 106 + 7 * k + 3 by omega, tkM_f hk (by omega)]
    rw [show 109 + 7 * k = 106 + 7 * k + 3 by omega] at c; exact c
  · rw [show 109 + 7 * ((k + 2) % 3) = 106 + 7 * ((k + 2) % 3) + 3 by omega, tkM_f (by omega) (by omega)]
    rw [show 109 + 7 * ((k + 2) % 3) = 106 + 7 * ((k + 2) % 3) + 3 by omega] at d; exact d
theorem OkR_cong {s t : Nat → Int32} (e : Eq127 s t) (h : ∀ k, k < 3 → OkR t k) : ∀ k, k < 3 → OkR s k := by
  intro k hk
  obtain ⟨a, b, c, d⟩ := h k hk
  refine ⟨?_, ?_, ?_, ?_⟩
  · rw [e _ (by omega)]; exact a
  · rw [e _ (by omega)]; exact b
  · rw [e _ (by omega)]; exact c
  · rw [e _ (by omega)]; exact d
theorem tkI_6 {s r : Nat → Int32} {un : Int32} {j : Nat} (h : j < 9) : ∀ n, tkI s r un n j = s j
  | 0 => rfl
  | n + 1 => (tkM_6 h).trans (tkI_6 h n)
theorem OkR_tkI {s r : Nat → Int32} {un : Int32} (h : ∀ k, k < 3 → OkR s k) : ∀ n, ∀ k, k < 3 → OkR (tkI s r un n) k
  | 0 => h
  | n + 1 => OkR_tk (OkR_tkI h n)
theorem wtc_cong {s t : Nat → Int32} (e : Eq127 s t) {k : Nat} (hk : k < 3) : wtc s k = wtc t k := by
  unfold wtc
  rw [e (106 + 7 * k) (by omega), e (107 + 7 * k) (by omega), e (108 + 7 * k) (by omega), e (109 + 7 * k) (by omega), e (106 + 7 * ((k + 1) % 3)) (by omega), e (106 + 7 * ((k + 2) % 3)) (by omega), e (109 + 7 * ((k + 2) % 3)) (by omega), e 8 (by decide), e (17 + 32 * k) (by omega), e (14 + 32 * k) (by omega)]
theorem stRM_v {s v w : Nat → Int32} {fi : Bool} {k : Nat} (h : v k = w k) : stRM s v fi k = stRM s w fi k := by unfold stRM; rw [h]
theorem tkP_cong {s t : Nat → Int32} (e : Eq127 s t) : Eq127 (tkP s) (tkP t) := by
  have e9 : s 9 = t 9 := e 9 (by decide)
  unfold tkP tkRM
  have hv : ∀ (u : Nat → Int32) (b : Bool) k, k < 3 → stRM u (wtc s) b k = stRM u (wtc t) b k := fun u b k hk => stRM_v (wtc_cong e hk)
  rw [e9, hv _ _ 0 (by decide), hv _ _ 1 (by decide), hv _ _ 2 (by decide)]
  have e3 := stRM_cong (v := wtc t) (fi := decide (t 9 = 0)) (k := 2) (by decide) (stRM_cong (v := wtc t) (fi := decide (t 9 = 0)) (k := 1) (by decide) (stRM_cong (v := wtc t) (fi := decide (t 9 = 0)) (k := 0) (by decide) e))
  unfold tk9
  rw [e3 9 (by decide)]
  exact ovr_cong e3 (fun _ _ => rfl)
theorem tkM_cong {s t r : Nat → Int32} {un : Int32} (e : Eq127 s t) : Eq127 (tkM s r un) (tkM t r un) := by
  unfold tkM
  exact stPM_cong (by decide) (stPM_cong (by decide) (stPM_cong (by decide) (tkP_cong e)))
theorem tkMN_cong {s t r : Nat → Int32} {un : Int32} (e : Eq127 s t) : tkMN s r un = tkMN t r un := by
  unfold tkMN
  rw [stPC_cong (by decide) (tkP_cong e), stPC_cong (by decide) (stPM_cong (by decide) (tkP_cong e)), stPC_cong (by decide) (stPM_cong (by decide) (stPM_cong (by decide) (tkP_cong e)))]
theorem stPM_r {s r q : Nat → Int32} {un : Int32} {k : Nat} (h : r k = q k) : stPM s r un k = stPM s q un k := by unfold stPM; rw [h]
theorem stPC_r {s r q : Nat → Int32} {k : Nat} (h : r k = q k) : stPC s r k = stPC s q k := by unfold stPC; rw [h]
theorem tkM_r {s r q : Nat → Int32} {un : Int32} (h : ∀ k, k < 3 → r k = q k) : tkM s r un = tkM s q un := by
  unfold tkM
  rw [stPM_r (h 0 (by decide)), stPM_r (h 1 (by decide)), stPM_r (h 2 (by decide))]
theorem tkMN_r {s r q : Nat → Int32} {un : Int32} (h : ∀ k, k < 3 → r k = q k) : tkMN s r un = tkMN s q un := by
  unfold tkMN
  rw [stPM_r (h 0 (by decide)), stPM_r (h 1 (by decide)), stPC_r (h 0 (by decide)), stPC_r (h 1 (by decide)), stPC_r (h 2 (by decide))]
def rts (s : Nat → Int32) : Nat → Int32 := fun k => rt s (10 + 32 * k)
def sp_X8_goes (ca : Nat → ClassId) : SPEC := fun av h post => ∃ m a st len fm at' re s f N, av = [.ref m, .int (nI N)] ∧ N ≤ 200 ∧ h m = some (eMod a st len fm at' re) ∧ h (a 0) = some (.inl (ca 0, 127, .inl s)) ∧ h (a 4) = some (.inl (ca 0, 3, .inl f)) ∧ WfS s ∧ ¬ m = a 0 ∧ ¬ m = a 4 ∧ ¬ a 0 = a 4 ∧ (∀ k, k < 3 → OkR s k) ∧
  ∀ s' r', Eq127 s' (tkI s (rts s) (s 6) N) → post (some (.int (tkC s (rts s) (s 6) N))) (va_up (va_up h (a 4) (some (.inl (ca 0, 3, .inl r')))) (a 0) (some (.inl (ca 0, 127, .inl s'))))
def k_X8_goes (ca : Nat → ClassId) : Nat → IT := fun pc => lk pc [(0, i_aload 0 1),
  (1, i_callV 8 0 0 0 0 0 (sp_X8_laysBends ca) 4),
  (4, i_push (.int 0) 5),
  (5, i_istore 2 6),
  (6, i_push (.int 0) 7),
  (7, i_istore 3 8),
  (8, i_iload 3 9),
  (9, i_iload 1 10),
  (10, i_icmp (fun x y => y ≤ x) 27 13),
  (13, i_iload 2 14),
  (14, i_aload 0 15),
  (15, i_push (.int 1) 16),
  (16, i_callV 8 1 0 0 0 0 (sp_X8_ticks ca) 19),
  (19, i_bin (fun x y => x + y) 20),
  (20, i_istore 2 21),
  (21, i_iinc 3 1 24),
  (24, i_goto 8),
  (27, i_iload 2 28),
  (28, i_ret)]
set_option maxRecDepth 20000 in
theorem t_X8_goes : Tb k_X8_goes yX8_goes cX8_goes 4 (some .int) 5 0 0 := by
  intro l D ca A p e s m args below meth c post X
  unfold k_X8_goes
  refine snd_cons (snd_aload_n X dX8_goes_0 rfl) ?_
  refine snd_cons (snd_callV X Fk8 (ok_X8_laysBends l D ca) rfl rfl w_817 w_819 wp_31 w_9 w_820 (by decide) (by decide) dX8_goes_1) ?_
  refine snd_cons (snd_iconst X dX8_goes_4 (by decide)) ?_
  refine snd_cons (snd_istore_n X dX8_goes_5 rfl (by decide)) ?_
  refine snd_cons (snd_iconst X dX8_goes_6 (by decide)) ?_
  refine snd_cons (snd_istore_n X dX8_goes_7 rfl (by decide)) ?_
  refine snd_cons (snd_iload_n X dX8_goes_8 rfl) ?_
  refine snd_cons (snd_iload_n X dX8_goes_9 rfl) ?_
  refine snd_cons (snd_icmp_ge X dX8_goes_10 (by decide)) ?_
  refine snd_cons (snd_iload_n X dX8_goes_13 rfl) ?_
  refine snd_cons (snd_aload_n X dX8_goes_14 rfl) ?_
  refine snd_cons (snd_iconst X dX8_goes_15 (by decide)) ?_
  refine snd_cons (snd_callV X Fk8 (ok_X8_ticks l D ca) rfl rfl w_821 w_823 wp_32 w_9 w_824 (by decide) (by decide) dX8_goes_16) ?_
  refine snd_cons (snd_iadd X dX8_goes_19) ?_
  refine snd_cons (snd_istore_n X dX8_goes_20 rfl (by decide)) ?_
  refine snd_cons (snd_iinc X dX8_goes_21 (by decide) (by decide)) ?_
  refine snd_cons (snd_goto X dX8_goes_24 (by decide)) ?_
  refine snd_cons (snd_iload_n X dX8_goes_27 rfl) ?_
  refine snd_cons (snd_ret X dX8_goes_28) ?_
  exact snd_nil
theorem k_X8_goes_0 (ca : Nat → ClassId) : k_X8_goes ca 0 = i_aload 0 1 := rfl
theorem k_X8_goes_1 (ca : Nat → ClassId) : k_X8_goes ca 1 = i_callV 8 0 0 0 0 0 (sp_X8_laysBends ca) 4 := rfl
theorem k_X8_goes_4 (ca : Nat → ClassId) : k_X8_goes ca 4 = i_push (.int 0) 5 := rfl
theorem k_X8_goes_5 (ca : Nat → ClassId) : k_X8_goes ca 5 = i_istore 2 6 := rfl
theorem k_X8_goes_6 (ca : Nat → ClassId) : k_X8_goes ca 6 = i_push (.int 0) 7 := rfl
theorem k_X8_goes_7 (ca : Nat → ClassId) : k_X8_goes ca 7 = i_istore 3 8 := rfl
theorem k_X8_goes_8 (ca : Nat → ClassId) : k_X8_goes ca 8 = i_iload 3 9 := rfl
theorem k_X8_goes_9 (ca : Nat → ClassId) : k_X8_goes ca 9 = i_iload 1 10 := rfl
theorem k_X8_goes_10 (ca : Nat → ClassId) : k_X8_goes ca 10 = i_icmp (fun x y => y ≤ x) 27 13 := rfl
theorem k_X8_goes_13 (ca : Nat → ClassId) : k_X8_goes ca 13 = i_iload 2 14 := rfl
theorem k_X8_goes_14 (ca : Nat → ClassId) : k_X8_goes ca 14 = i_aload 0 15 := rfl
theorem k_X8_goes_15 (ca : Nat → ClassId) : k_X8_goes ca 15 = i_push (.int 1) 16 := rfl
theorem k_X8_goes_16 (ca : Nat → ClassId) : k_X8_goes ca 16 = i_callV 8 1 0 0 0 0 (sp_X8_ticks ca) 19 := rfl
theorem k_X8_goes_19 (ca : Nat → ClassId) : k_X8_goes ca 19 = i_bin (fun x y => x + y) 20 := rfl
theorem k_X8_goes_20 (ca : Nat → ClassId) : k_X8_goes ca 20 = i_istore 2 21 := rfl
theorem k_X8_goes_21 (ca : Nat → ClassId) : k_X8_goes ca 21 = i_iinc 3 1 24 := rfl
theorem k_X8_goes_24 (ca : Nat → ClassId) : k_X8_goes ca 24 = i_goto 8 := rfl
theorem k_X8_goes_27 (ca : Nat → ClassId) : k_X8_goes ca 27 = i_iload 2 28 := rfl
theorem k_X8_goes_28 (ca : Nat → ClassId) : k_X8_goes ca 28 = i_ret := rfl
set_option maxHeartbeats 4000000 in
set_option maxRecDepth 20000 in
theorem ok_X8_goes (l : Launch) (D : va_G) (ca : Nat → ClassId) : OkAll l D ca yX8_goes cX8_goes 4 (some .int) 5 0 0 (sp_X8_goes ca) := by
  intro av h post hs
  obtain ⟨m, a, st, len, fm, at', re, s, f, N, rfl, hN, hm, h0, h4, hW, d1, d2, d3, hO, hs⟩ := hs
  generalize hr : rts s = r at *
  refine okM_of t_X8_goes (by decide +kernel) (c1_ref (c1_int c1_nil)) (Nat.le_of_ble_eq_true rfl) ?_
  intro K go
  have hm' := hm
  unfold eMod at hm'
  refine goN go (stp [4]) 160 _ _ _ _ _ _ (fun F hF hF0 => ?_)
  simp only [hF, hF0, ite_not, i_push, i_iload, i_lload, i_aload, i_istore, i_astore, i_lstore, i_iinc, i_bin, i_dv, i_un, i_lbin, i_lsh, i_i2l, i_l2i, i_lcmp, i_dup, i_dup2, i_pop, i_if, i_icmp, i_goto, swG, i_sw, i_getf, i_puti, i_putz, i_putr, i_ald, i_lald, i_aald, i_ast, i_last, i_aast, i_alen, i_new, i_newi, i_newl, i_newq, i_oinit, i_ret, i_zret, i_lret, i_vret, catS, tk, rpush, isO, i_m1, i_m2, i_acopy, i_callV, i_callS, KRet, lget, lput, lputL, lcl0, isL, lv0, List.map_cons, List.map_nil, List.length_cons, List.length_nil, List.cons_append, List.nil_append, Nat.reduceAdd, Nat.reduceSub, Nat.reduceLeDiff, List.replicate_succ, List.replicate_zero, List.getElem?_cons_succ, List.getElem?_cons_zero, List.set_cons_succ, List.set_cons_zero, true_and, and_true, if_true, if_false, reduceIte, Nat.le_refl, Value.category, va_up_app, eq_self, stp, Nat.reduceBEq, Bool.or_false, Bool.false_or, Bool.true_or, Bool.or_true, or_true, true_or, bx_uu, implies_true, true_implies, not_true, not_false_eq_true, false_implies, and_self, Nat.reduceLT, Int32.reduceAdd, Int32.reduceSub, Int32.reduceMul, Int32.reduceLE, Int32.reduceLT, Int32.reduceToNatClampNeg, va_rf_some, Bool.false_eq_true, k_X8_goes_0 ca, k_X8_goes_1 ca, k_X8_goes_4 ca, k_X8_goes_5 ca, k_X8_goes_6 ca, k_X8_goes_7 ca, k_X8_goes_8 ca, k_X8_goes_9 ca, k_X8_goes_10 ca, k_X8_goes_13 ca, k_X8_goes_14 ca, k_X8_goes_15 ca, k_X8_goes_16 ca, k_X8_goes_19 ca, k_X8_goes_20 ca, k_X8_goes_21 ca, k_X8_goes_24 ca, k_X8_goes_27 ca, k_X8_goes_28 ca, hm']
  try clear hF hF0 F
  refine ⟨m, a, st, len, fm, at', re, s, f, rfl, hm, h0, h4, hW, d2, d3, fun r' hr' => ?_⟩
  have hrr : ∀ k, k < 3 → r' k = r k := fun k hk => by rw [← hr]; exact hr' k hk
  generalize hH : va_up h (a 4) (some (.inl (ca 0, 3, .inl r'))) = H at *
  have hmH : H m = some (eMod a st len fm at' re) := by rw [← hH, va_up_ne _ _ d2]; exact hm
  have hmE := hmH
  unfold eMod at hmE
  have h0H : H (a 0) = some (.inl (ca 0, 127, .inl s)) := by rw [← hH, va_up_ne _ _ d3]; exact h0
  have h4H : H (a 4) = some (.inl (ca 0, 3, .inl r')) := by rw [← hH]; exact va_up_self _ _ _
  have hs := fun s' => hs s' r'
  rw [hH] at hs
  have d3' : ¬ a 4 = a 0 := fun z => d3 z.symm
  have key : ∀ j i, i + j = N → ∀ s1, Eq127 s1 (tkI s r (s 6) i) → K 0 0 8 [some (.ref m), some (.int (nI N)), some (.int (tkC s r (s 6) i)), some (.int (nI i))] [] (va_up H (a 0) (some (.inl (ca 0, 127, .inl s1)))) := by
    intro j
    induction j with
    | zero =>
      intro i hi s1 h1
      have hi : i = N := hi
      subst hi
      refine goN go (stp [8]) 160 _ _ _ _ _ _ (fun F hF hF0 => ?_)
      simp only [hF, hF0, ite_not, i_push, i_iload, i_lload, i_aload, i_istore, i_astore, i_lstore, i_iinc, i_bin, i_dv, i_un, i_lbin, i_lsh, i_i2l, i_l2i, i_lcmp, i_dup, i_dup2, i_pop, i_if, i_icmp, i_goto, swG, i_sw, i_getf, i_puti, i_putz, i_putr, i_ald, i_lald, i_aald, i_ast, i_last, i_aast, i_alen, i_new, i_newi, i_newl, i_newq, i_oinit, i_ret, i_zret, i_lret, i_vret, catS, tk, rpush, isO, i_m1, i_m2, i_acopy, i_callV, i_callS, KRet, lget, lput, lputL, lcl0, isL, lv0, List.map_cons, List.map_nil, List.length_cons, List.length_nil, List.cons_append, List.nil_append, Nat.reduceAdd, Nat.reduceSub, Nat.reduceLeDiff, List.replicate_succ, List.replicate_zero, List.getElem?_cons_succ, List.getElem?_cons_zero, List.set_cons_succ, List.set_cons_zero, true_and, and_true, if_true, if_false, reduceIte, Nat.le_refl, Value.category, va_up_app, eq_self, stp, Nat.reduceBEq, Bool.or_false, Bool.false_or, Bool.true_or, Bool.or_true, or_true, true_or, bx_uu, implies_true, true_implies, not_true, not_false_eq_true, false_implies, and_self, Nat.reduceLT, Int32.reduceAdd, Int32.reduceSub, Int32.reduceMul, Int32.reduceLE, Int32.reduceLT, Int32.reduceToNatClampNeg, va_rf_some, Bool.false_eq_true, k_X8_goes_0 ca, k_X8_goes_1 ca, k_X8_goes_4 ca, k_X8_goes_5 ca, k_X8_goes_6 ca, k_X8_goes_7 ca, k_X8_goes_8 ca, k_X8_goes_9 ca, k_X8_goes_10 ca, k_X8_goes_13 ca, k_X8_goes_14 ca, k_X8_goes_15 ca, k_X8_goes_16 ca, k_X8_goes_19 ca, k_X8_goes_20 ca, k_X8_goes_21 ca, k_X8_goes_24 ca, k_X8_goes_27 ca, k_X8_goes_28 ca, Int32.le_refl]
      try clear hF hF0 F
      exact hs s1 h1
    | succ j ih =>
      intro i hi s1 h1
      have g1 : ¬ nI N ≤ nI i := nI_ge (by omega) (by omega)
      refine goN go (stp [8, 19]) 160 _ _ _ _ _ _ (fun F hF hF0 => ?_)
      simp only [hF, hF0, ite_not, i_push, i_iload, i_lload, i_aload, i_istore, i_astore, i_lstore, i_iinc, i_bin, i_dv, i_un, i_lbin, i_lsh, i_i2l, i_l2i, i_lcmp, i_dup, i_dup2, i_pop, i_if, i_icmp, i_goto, swG, i_sw, i_getf, i_puti, i_putz, i_putr, i_ald, i_lald, i_aald, i_ast, i_last, i_aast, i_alen, i_new, i_newi, i_newl, i_newq, i_oinit, i_ret, i_zret, i_lret, i_vret, catS, tk, rpush, isO, i_m1, i_m2, i_acopy, i_callV, i_callS, KRet, lget, lput, lputL, lcl0, isL, lv0, List.map_cons, List.map_nil, List.length_cons, List.length_nil, List.cons_append, List.nil_append, Nat.reduceAdd, Nat.reduceSub, Nat.reduceLeDiff, List.replicate_succ, List.replicate_zero, List.getElem?_cons_succ, List.getElem?_cons_zero, List.set_cons_succ, List.set_cons_zero, true_and, and_true, if_true, if_false, reduceIte, Nat.le_refl, Value.category, va_up_app, eq_self, stp, Nat.reduceBEq, Bool.or_false, Bool.false_or, Bool.true_or, Bool.or_true, or_true, true_or, bx_uu, implies_true, true_implies, not_true, not_false_eq_true, false_implies, and_self, Nat.reduceLT, Int32.reduceAdd, Int32.reduceSub, Int32.reduceMul, Int32.reduceLE, Int32.reduceLT, Int32.reduceToNatClampNeg, va_rf_some, Bool.false_eq_true, k_X8_goes_0 ca, k_X8_goes_1 ca, k_X8_goes_4 ca, k_X8_goes_5 ca, k_X8_goes_6 ca, k_X8_goes_7 ca, k_X8_goes_8 ca, k_X8_goes_9 ca, k_X8_goes_10 ca, k_X8_goes_13 ca, k_X8_goes_14 ca, k_X8_goes_15 ca, k_X8_goes_16 ca, k_X8_goes_19 ca, k_X8_goes_20 ca, k_X8_goes_21 ca, k_X8_goes_24 ca, k_X8_goes_27 ca, k_X8_goes_28 ca, g1, hmE, d1]
      try clear hF hF0 F
      refine ⟨m, a, st, len, fm, at', re, s1, r', 1, rfl, (va_up_ne _ _ d1).trans hmH, va_up_self _ _ _, (va_up_ne _ _ d3').trans h4H, d1, d3', OkR_cong h1 (OkR_tkI hO i), fun s2 h2 => ?_⟩
      rw [bx_uu]
      rw [if_neg (by decide), h1 6 (by decide), tkI_6 (by decide)] at h2 ⊢
      have e2 : Eq127 s2 (tkI s r (s 6) (i + 1)) := by
        rw [tkM_r hrr] at h2
        exact h2.tr (tkM_cong h1)
      have eN : tkMN s1 r' (s 6) = tkMN (tkI s r (s 6) i) r (s 6) := (tkMN_r hrr).trans (tkMN_cong h1)
      rw [eN]
      refine goN go (stp [8]) 160 _ _ _ _ _ _ (fun F hF hF0 => ?_)
      simp only [hF, hF0, ite_not, i_push, i_iload, i_lload, i_aload, i_istore, i_astore, i_lstore, i_iinc, i_bin, i_dv, i_un, i_lbin, i_lsh, i_i2l, i_l2i, i_lcmp, i_dup, i_dup2, i_pop, i_if, i_icmp, i_goto, swG, i_sw, i_getf, i_puti, i_putz, i_putr, i_ald, i_lald, i_aald, i_ast, i_last, i_aast, i_alen, i_new, i_newi, i_newl, i_newq, i_oinit, i_ret, i_zret, i_lret, i_vret, catS, tk, rpush, isO, i_m1, i_m2, i_acopy, i_callV, i_callS, KRet, lget, lput, lputL, lcl0, isL, lv0, List.map_cons, List.map_nil, List.length_cons, List.length_nil, List.cons_append, List.nil_append, Nat.reduceAdd, Nat.reduceSub, Nat.reduceLeDiff, List.replicate_succ, List.replicate_zero, List.getElem?_cons_succ, List.getElem?_cons_zero, List.set_cons_succ, List.set_cons_zero, true_and, and_true, if_true, if_false, reduceIte, Nat.le_refl, Value.category, va_up_app, eq_self, stp, Nat.reduceBEq, Bool.or_false, Bool.false_or, Bool.true_or, Bool.or_true, or_true, true_or, bx_uu, implies_true, true_implies, not_true, not_false_eq_true, false_implies, and_self, Nat.reduceLT, Int32.reduceAdd, Int32.reduceSub, Int32.reduceMul, Int32.reduceLE, Int32.reduceLT, Int32.reduceToNatClampNeg, va_rf_some, Bool.false_eq_true, k_X8_goes_0 ca, k_X8_goes_1 ca, k_X8_goes_4 ca, k_X8_goes_5 ca, k_X8_goes_6 ca, k_X8_goes_7 ca, k_X8_goes_8 ca, k_X8_goes_9 ca, k_X8_goes_10 ca, k_X8_goes_13 ca, k_X8_goes_14 ca, k_X8_goes_15 ca, k_X8_goes_16 ca, k_X8_goes_19 ca, k_X8_goes_20 ca, k_X8_goes_21 ca, k_X8_goes_24 ca, k_X8_goes_27 ca, k_X8_goes_28 ca, a_1]
      try clear hF hF0 F
      exact ih (i + 1) (by omega) s2 e2
  have k0 := key N 0 (by omega) s Eq127.rf
  rw [up_id h0H, nI_0] at k0
  refine goN go (stp [8]) 160 _ _ _ _ _ _ (fun F hF hF0 => ?_)
  simp only [hF, hF0, ite_not, i_push, i_iload, i_lload, i_aload, i_istore, i_astore, i_lstore, i_iinc, i_bin, i_dv, i_un, i_lbin, i_lsh, i_i2l, i_l2i, i_lcmp, i_dup, i_dup2, i_pop, i_if, i_icmp, i_goto, swG, i_sw, i_getf, i_puti, i_putz, i_putr, i_ald, i_lald, i_aald, i_ast, i_last, i_aast, i_alen, i_new, i_newi, i_newl, i_newq, i_oinit, i_ret, i_zret, i_lret, i_vret, catS, tk, rpush, isO, i_m1, i_m2, i_acopy, i_callV, i_callS, KRet, lget, lput, lputL, lcl0, isL, lv0, List.map_cons, List.map_nil, List.length_cons, List.length_nil, List.cons_append, List.nil_append, Nat.reduceAdd, Nat.reduceSub, Nat.reduceLeDiff, List.replicate_succ, List.replicate_zero, List.getElem?_cons_succ, List.getElem?_cons_zero, List.set_cons_succ, List.set_cons_zero, true_and, and_true, if_true, if_false, reduceIte, Nat.le_refl, Value.category, va_up_app, eq_self, stp, Nat.reduceBEq, Bool.or_false, Bool.false_or, Bool.true_or, Bool.or_true, or_true, true_or, bx_uu, implies_true, true_implies, not_true, not_false_eq_true, false_implies, and_self, Nat.reduceLT, Int32.reduceAdd, Int32.reduceSub, Int32.reduceMul, Int32.reduceLE, Int32.reduceLT, Int32.reduceToNatClampNeg, va_rf_some, Bool.false_eq_true, k_X8_goes_0 ca, k_X8_goes_1 ca, k_X8_goes_4 ca, k_X8_goes_5 ca, k_X8_goes_6 ca, k_X8_goes_7 ca, k_X8_goes_8 ca, k_X8_goes_9 ca, k_X8_goes_10 ca, k_X8_goes_13 ca, k_X8_goes_14 ca, k_X8_goes_15 ca, k_X8_goes_16 ca, k_X8_goes_19 ca, k_X8_goes_20 ca, k_X8_goes_21 ca, k_X8_goes_24 ca, k_X8_goes_27 ca, k_X8_goes_28 ca]
  try clear hF hF0 F
  exact k0
