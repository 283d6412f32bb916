/-! SnapStacksModel: sums, begins and returns -/
def MS (ca : Nat → ClassId) (h : PH) (m a0 : Nat) (s : Nat → Int32) : Prop := (∃ r, h m = some (.inr (8, .ref a0 :: r))) ∧ h a0 = some (.inl (ca 0, 127, .inl s))
theorem a_1 {k : Nat} : nI k + 1 = nI (k + 1) := nI_add k 1
theorem tn127 {e : Nat} (h : e < 127) : (nI e).toNatClampNeg = e := nI_clamp (by omega)
/-! SnapStacksModel: begins, returns, acted -/
def flo (f g : Nat → Int32) (n : Nat) : Nat → Int32 := fun j => if j < n then f j else g j
theorem flo_0 {f g : Nat → Int32} : flo f g 0 = g := by funext j; unfold flo; rw [if_neg (by omega)]
theorem flo_s {f g : Nat → Int32} {n : Nat} : upd (flo f g n) n (f n) = flo f g (n + 1) := by
  funext j
  by_cases q : j = n
  · subst q; rw [pk_us]; unfold flo; rw [if_pos (by omega)]
  · rw [pk_un q]; unfold flo
    by_cases q2 : j < n
    · rw [if_pos q2, if_pos (by omega)]
    · rw [if_neg q2, if_neg (by omega)]
theorem flo_in {f g : Nat → Int32} {n j : Nat} (h : j < n) : flo f g n j = f j := by unfold flo; rw [if_pos h]
def eMod (a : Nat → Nat) (st len fm at' re : Int32) : va_E := .inr (8, [.ref (a 0), .ref (a 1), .ref (a 2), .int st, .ref (a 3), .int len, .ref (a 4), .ref (a 5), .ref (a 6), .ref (a 7), .ref (a 8), .ref (a 9), .int fm, .int at', .int re])
/-- a stretch of a row, n numbers from lo on, laid from f -/
def lay (p f : Nat → Int32) (lo n : Nat) : Nat → Int32 := fun j => if lo ≤ j ∧ j < lo + n then f (j - lo) else p j
/-- the reference's past behind an act: t states before -/
def pastT (t : Nat) : Nat := if t = 4 then 4 else t + 1
def pastF (p g : Nat → Int32) (t : Nat) : Nat → Int32 := if t = 4 then lay (flo (fun j => p (j + 127)) p 381) g 381 127 else lay p g (127 * t) 127
/-! SnapStacksModel: tires, pulls, warmer, laysBends -/
theorem pu {post : Option Value → PH → Prop} {v : Option Value} {h : PH} {a n : Nat} {cA : ClassId} {f f' : Nat → Int32} (e : f = f') (hp : post v (va_up h a (some (.inl (cA, n, .inl f'))))) : post v (va_up h a (some (.inl (cA, n, .inl f)))) := e ▸ hp
theorem one0 : ((1 : Int32) = 0) = False := eq_false (by decide)
theorem upd_app {f : Nat → Int32} {i : Nat} {x : Int32} {j : Nat} : upd f i x j = if j = i then x else f j := by
  by_cases q : j = i
  · subst q
    rw [pk_us, if_pos rfl]
  · rw [pk_un q, if_neg q]
/-- the reference's row behind a pull at strip k; un: 0 where strips get no more tired -/
def plS (s : Nat → Int32) (k : Nat) (un bend : Int32) : Nat → Int32 := ovr s (10 + 32 * k) 8 (mvT (fun i => s (10 + 32 * k + i)) un (s 7) bend)
/-! SnapStacksModel: warmer, laysBends -/
def OkR (s : Nat → Int32) (k : Nat) : Prop := ¬ s (108 + 7 * k) = 0 ∧ (s (14 + 32 * k) = 0 ∨ s (14 + 32 * k) = 1) ∧ (s (109 + 7 * k) = 0 ∨ s (109 + 7 * k) = 1) ∧ (s (109 + 7 * ((k + 2) % 3)) = 0 ∨ s (109 + 7 * ((k + 2) % 3)) = 1)
theorem zero1 : ((0 : Int32) = 1) = False := eq_false (by decide)
/-! long tables in pieces -/
section LKS
variable {D : va_G} {A : Nat → Prop} {nL : Nat} {p : Program} {l : Launch} {e : Env} {R : Room} {s : State} {m : MethodId} {args : Array Value} {below : List Frame} {meth : Method} {c : Code} {Q : State → Prop} {KR : RT}
theorem snd_split (n : Nat) {f g : Nat → IT} (hf : ∀ pc, Snd D A nL p l e R s m args below meth c Q KR (f pc) pc) (hg : ∀ pc, Snd D A nL p l e R s m args below meth c Q KR (g pc) pc) : ∀ pc, Snd D A nL p l e R s m args below meth c Q KR (if pc < n then f pc else g pc) pc := by
  intro pc
  by_cases q : pc < n
  · rw [if_pos q]; exact hf pc
  · rw [if_neg q]; exact hg pc
end LKS

/-! SnapStacksModel: a tick -/
def Eq127 (s t : Nat → Int32) : Prop := ∀ j, j < 127 → s j = t j
theorem Eq127.rf {s : Nat → Int32} : Eq127 s s := fun _ _ => rfl
theorem Eq127.tr {s t u : Nat → Int32} (a : Eq127 s t) (b : Eq127 t u) : Eq127 s u := fun j hj => (a j hj).trans (b j hj)
def mxM (fi : Bool) (g v : Int32) : Int32 := if fi = false then (if v ≤ g then g else v) else v
def mnM (fi : Bool) (g v : Int32) : Int32 := if fi = false then (if g ≤ v then g else v) else v
def roomM (s : Nat → Int32) (k : Nat) (v : Int32) (fi : Bool) : Nat → Int32 := mk7 v (s (107 + 7 * k)) (s (108 + 7 * k)) (s (109 + 7 * k)) (s (110 + 7 * k) + (if closedF (s (17 + 32 * k)) (s (14 + 32 * k)) = false then 0 else 1)) (mxM fi (s (111 + 7 * k)) v) (mnM fi (s (112 + 7 * k)) v)
def stRM (s : Nat → Int32) (v : Nat → Int32) (fi : Bool) (k : Nat) : Nat → Int32 := ovr s (106 + 7 * k) 7 (roomM s k (v k) fi)
def tkRM (s v : Nat → Int32) (fi : Bool) : Nat → Int32 := stRM (stRM (stRM s v fi 0) v fi 1) v fi 2
def tk9 (s : Nat → Int32) : Nat → Int32 := ovr s 9 1 (fun _ => s 9 + 1)
def stPM (s r : Nat → Int32) (un : Int32) (k : Nat) : Nat → Int32 := plS s k un (r k * (s (106 + 7 * k) - 200))
def stPC (s r : Nat → Int32) (k : Nat) : Int32 := b2i (chB (s (11 + 32 * k)) (s (12 + 32 * k)) (s (13 + 32 * k)) (s (15 + 32 * k)) (s (14 + 32 * k)) (r k * (s (106 + 7 * k) - 200)))
def tkP (s : Nat → Int32) : Nat → Int32 := tk9 (tkRM s (wtc s) (decide (s 9 = 0)))
def tkM (s r : Nat → Int32) (un : Int32) : Nat → Int32 := stPM (stPM (stPM (tkP s) r un 0) r un 1) r un 2
def tkMN (s r : Nat → Int32) (un : Int32) : Int32 := 0 + stPC (tkP s) r 0 + stPC (stPM (tkP s) r un 0) r 1 + stPC (stPM (stPM (tkP s) r un 0) r un 1) r 2
theorem mvT_cong {t t' : Nat → Int32} {un by' bend : Int32} (h : ∀ i, i < 8 → t i = t' i) : ∀ i, i < 8 → mvT t un by' bend i = mvT t' un by' bend i := by
  intro i hi
  unfold mvT mvU
  rw [h 1 (by decide), h 2 (by decide), h 3 (by decide), h 4 (by decide), h 5 (by decide), h 6 (by decide), h i hi]
theorem tkP_s {s : Nat → Int32} {j : Nat} (h : ¬ j = 9) (h2 : j < 106 ∨ 127 ≤ j) : tkP s j = s j := by
  unfold tkP tk9 tkRM stRM
  rw [ovr_out (by omega), ovr_out (by omega), ovr_out (by omega), ovr_out (by omega)]
theorem stPM_o {s r : Nat → Int32} {un : Int32} {k j : Nat} (h : j < 10 + 32 * k ∨ 18 + 32 * k ≤ j) : stPM s r un k j = s j := by
  unfold stPM plS
  rw [ovr_out (by omega)]

/-! SnapStacksModel: adds -/
theorem n8 : nI 8 = 8 := rfl
/-! SnapStacksModel: shortens -/
def shS (s : Nat → Int32) (o N i : Nat) : Nat → Int32 := fun j => if j = o then nI (N - i) else if o + 8 + 3 * (N - i) ≤ j ∧ j < o + 8 + 3 * N then 0 else s j
/-! Arrays.fill -/
def fil (f : Nat → Int32) (x : Int32) (n : Nat) : Nat → Int32 := flo (fun _ => x) f n
def sp_J7_fill_53178 (ca : Nat → ClassId) : SPEC := fun av h post => match av with
  | [.ref a, .int x] => (match h a with
    | some (.inl (c0, n, .inl f)) => c0 = ca 0 ∧ n < 2147483648 ∧ post none (va_up h a (some (.inl (ca 0, n, .inl (fil f x n)))))
    | _ => False)
  | _ => False
def k_J7_fill_53178 (ca : Nat → ClassId) : Nat → IT := fun pc => lk pc [(0, i_push (.int 0) 1),
  (1, i_istore 2 2),
  (2, i_aload 0 3),
  (3, i_alen (ca 0) 4),
  (4, i_istore 3 5),
  (5, i_iload 2 6),
  (6, i_iload 3 7),
  (7, i_icmp (fun x y => y ≤ x) 20 10),
  (10, i_aload 0 11),
  (11, i_iload 2 12),
  (12, i_iload 1 13),
  (13, i_ast (fun x => x) (ca 0) 14),
  (14, i_iinc 2 1 17),
  (17, i_goto 5),
  (20, i_vret)]
set_option maxRecDepth 20000 in
theorem t_J7_fill_53178 : Tb k_J7_fill_53178 yJ7_fill_53178 cJ7_fill_53178 4 none 0 0 0 := by
  intro l D ca A p e s m args below meth c post X
  unfold k_J7_fill_53178
  refine snd_cons (snd_iconst X dJ7_fill_53178_0 (by decide)) ?_
  refine snd_cons (snd_istore_n X dJ7_fill_53178_1 rfl (by decide)) ?_
  refine snd_cons (snd_aload_n X dJ7_fill_53178_2 rfl) ?_
  refine snd_cons (snd_alen X dJ7_fill_53178_3) ?_
  refine snd_cons (snd_istore_n X dJ7_fill_53178_4 rfl (by decide)) ?_
  refine snd_cons (snd_iload_n X dJ7_fill_53178_5 rfl) ?_
  refine snd_cons (snd_iload_n X dJ7_fill_53178_6 rfl) ?_
  refine snd_cons (snd_icmp_ge X dJ7_fill_53178_7 (by decide)) ?_
  refine snd_cons (snd_aload_n X dJ7_fill_53178_10 rfl) ?_
  refine snd_cons (snd_iload_n X dJ7_fill_53178_11 rfl) ?_
  refine snd_cons (snd_iload_n X dJ7_fill_53178_12 rfl) ?_
  refine snd_cons (snd_iastore X dJ7_fill_53178_13) ?_
  refine snd_cons (snd_iinc X dJ7_fill_53178_14 (by decide) (by decide)) ?_
  refine snd_cons (snd_goto X dJ7_fill_53178_17 (by decide)) ?_
  refine snd_cons (snd_vret X dJ7_fill_53178_20) ?_
  exact snd_nil
theorem k_J7_fill_53178_0 (ca : Nat → ClassId) : k_J7_fill_53178 ca 0 = i_push (.int 0) 1 := rfl
theorem k_J7_fill_53178_1 (ca : Nat → ClassId) : k_J7_fill_53178 ca 1 = i_istore 2 2 := rfl
theorem k_J7_fill_53178_2 (ca : Nat → ClassId) : k_J7_fill_53178 ca 2 = i_aload 0 3 := rfl
theorem k_J7_fill_53178_3 (ca : Nat → ClassId) : k_J7_fill_53178 ca 3 = i_alen (ca 0) 4 := rfl
theorem k_J7_fill_53178_4 (ca : Nat → ClassId) : k_J7_fill_53178 ca 4 = i_istore 3 5 := rfl
theorem k_J7_fill_53178_5 (ca : Nat → ClassId) : k_J7_fill_53178 ca 5 = i_iload 2 6 := rfl
theorem k_J7_fill_53178_6 (ca : Nat → ClassId) : k_J7_fill_53178 ca 6 = i_iload 3 7 := rfl
theorem k_J7_fill_53178_7 (ca : Nat → ClassId) : k_J7_fill_53178 ca 7 = i_icmp (fun x y => y ≤ x) 20 10 := rfl
theorem k_J7_fill_53178_10 (ca : Nat → ClassId) : k_J7_fill_53178 ca 10 = i_aload 0 11 := rfl
theorem k_J7_fill_53178_11 (ca : Nat → ClassId) : k_J7_fill_53178 ca 11 = i_iload 2 12 := rfl
theorem k_J7_fill_53178_12 (ca : Nat → ClassId) : k_J7_fill_53178 ca 12 = i_iload 1 13 := rfl
theorem k_J7_fill_53178_13 (ca : Nat → ClassId) : k_J7_fill_53178 ca 13 = i_ast (fun x => x) (ca 0) 14 := rfl
theorem k_J7_fill_53178_14 (ca : Nat → ClassId) : k_J7_fill_53178 ca 14 = i_iinc 2 1 17 := rfl
theorem k_J7_fill_53178_17 (ca : Nat → ClassId) : k_J7_fill_53178 ca 17 = i_goto 5 := rfl
theorem k_J7_fill_53178_20 (ca : Nat → ClassId) : k_J7_fill_53178 ca 20 = i_vret := rfl
set_option maxHeartbeats 4000000 in
set_option maxRecDepth 20000 in
theorem ok_J7_fill_53178 (l : Launch) (D : va_G) (ca : Nat → ClassId) : OkAll l D ca yJ7_fill_53178 cJ7_fill_53178 4 none 0 0 0 (sp_J7_fill_53178 ca) := by
  intro av h post hs
  unfold sp_J7_fill_53178 at hs
  split at hs
  · split at hs
    · rename_i a x _ c0 n f ha
      obtain ⟨rfl, hn, hs⟩ := hs
      refine okM_of t_J7_fill_53178 (by decide +kernel) (c1_ref (c1_int c1_nil)) (Nat.le_of_ble_eq_true rfl) ?_
      intro K go
      have key : ∀ r i, i + r = n → K 0 0 5 [some (.ref a), some (.int x), some (.int (nI i)), some (.int (nI n))] [] (va_up h a (some (.inl (ca 0, n, .inl (fil f x i))))) := by
        intro r
        induction r with
        | zero =>
          intro i hi
          have hi : i = n := hi
          subst hi
          refine go (stp [5]) 6 _ _ _ _ _ _ ?_
          simp only [wpS, ite_not, i_push, i_iload, i_lload, i_aload, i_istore, i_astore, i_lstore, i_iinc, i_bin, i_dv, i_un, i_lbin, i_lsh, i_i2l, i_l2i, i_lcmp, i_dup, i_dup2, i_pop, i_if, i_icmp, i_goto, swG, i_sw, i_getf, i_puti, i_putz, i_putr, i_ald, i_lald, i_aald, i_ast, i_last, i_aast, i_alen, i_new, i_newi, i_newl, i_newq, i_oinit, i_ret, i_zret, i_lret, i_vret, catS, tk, rpush, isO, i_m1, i_m2, i_acopy, i_callV, i_callS, KRet, lget, lput, lputL, lcl0, isL, lv0, List.map_cons, List.map_nil, List.length_cons, List.length_nil, List.cons_append, List.nil_append, Nat.reduceAdd, Nat.reduceSub, Nat.reduceLeDiff, List.replicate_succ, List.replicate_zero, List.getElem?_cons_succ, List.getElem?_cons_zero, List.set_cons_succ, List.set_cons_zero, true_and, and_true, if_true, if_false, reduceIte, Nat.le_refl, Value.category, va_up_app, eq_self, stp, Nat.reduceBEq, Bool.or_false, Bool.false_or, Bool.true_or, Bool.or_true, or_true, true_or, bx_uu, implies_true, true_implies, not_true, not_false_eq_true, false_implies, and_self, Nat.reduceLT, Int32.reduceAdd, Int32.reduceSub, Int32.reduceMul, Int32.reduceLE, Int32.reduceLT, Int32.reduceToNatClampNeg, va_rf_some, Bool.false_eq_true, k_J7_fill_53178_0 ca, k_J7_fill_53178_1 ca, k_J7_fill_53178_2 ca, k_J7_fill_53178_3 ca, k_J7_fill_53178_4 ca, k_J7_fill_53178_5 ca, k_J7_fill_53178_6 ca, k_J7_fill_53178_7 ca, k_J7_fill_53178_10 ca, k_J7_fill_53178_11 ca, k_J7_fill_53178_12 ca, k_J7_fill_53178_13 ca, k_J7_fill_53178_14 ca, k_J7_fill_53178_17 ca, k_J7_fill_53178_20 ca, Int32.le_refl]
          exact hs
        | succ r ih =>
          intro i hi
          have g1 : ¬ nI n ≤ nI i := nI_ge (by omega) (by omega)
          have z0 : vp_in (nI i) n := vp_in_nI (by omega) (by omega)
          have z1 : (nI i).toNatClampNeg = i := nI_clamp (by omega)
          have e : upd (fil f x i) i x = fil f x (i + 1) := flo_s (f := fun _ => x)
          refine go (stp [5]) 12 _ _ _ _ _ _ ?_
          simp only [wpS, ite_not, i_push, i_iload, i_lload, i_aload, i_istore, i_astore, i_lstore, i_iinc, i_bin, i_dv, i_un, i_lbin, i_lsh, i_i2l, i_l2i, i_lcmp, i_dup, i_dup2, i_pop, i_if, i_icmp, i_goto, swG, i_sw, i_getf, i_puti, i_putz, i_putr, i_ald, i_lald, i_aald, i_ast, i_last, i_aast, i_alen, i_new, i_newi, i_newl, i_newq, i_oinit, i_ret, i_zret, i_lret, i_vret, catS, tk, rpush, isO, i_m1, i_m2, i_acopy, i_callV, i_callS, KRet, lget, lput, lputL, lcl0, isL, lv0, List.map_cons, List.map_nil, List.length_cons, List.length_nil, List.cons_append, List.nil_append, Nat.reduceAdd, Nat.reduceSub, Nat.reduceLeDiff, List.replicate_succ, List.replicate_zero, List.getElem?_cons_succ, List.getElem?_cons_zero, List.set_cons_succ, List.set_cons_zero, true_and, and_true, if_true, if_false, reduceIte, Nat.le_refl, Value.category, va_up_app, eq_self, stp, Nat.reduceBEq, Bool.or_false, Bool.false_or, Bool.true_or, Bool.or_true, or_true, true_or, bx_uu, implies_true, true_implies, not_true, not_false_eq_true, false_implies, and_self, Nat.reduceLT, Int32.reduceAdd, Int32.reduceSub, Int32.reduceMul, Int32.reduceLE, Int32.reduceLT, Int32.reduceToNatClampNeg, va_rf_some, Bool.false_eq_true, k_J7_fill_53178_0 ca, k_J7_fill_53178_1 ca, k_J7_fill_53178_2 ca, k_J7_fill_53178_3 ca, k_J7_fill_53178_4 ca, k_J7_fill_53178_5 ca, k_J7_fill_53178_6 ca, k_J7_fill_53178_7 ca, k_J7_fill_53178_10 ca, k_J7_fill_53178_11 ca, k_J7_fill_53178_12 ca, k_J7_fill_53178_13 ca, k_J7_fill_53178_14 ca, k_J7_fill_53178_17 ca, k_J7_fill_53178_20 ca, g1, z0, z1, a_1, e]
          exact ih (i + 1) (by omega)
      have k0 := key n 0 (by omega)
      have e0 : fil f x 0 = f := flo_0
      rw [e0, up_id ha, nI_0] at k0
      have en : Int32.ofNat n = nI n := rfl
      refine go (stp [5]) 8 _ _ _ _ _ _ ?_
      simp only [wpS, ite_not, i_push, i_iload, i_lload, i_aload, i_istore, i_astore, i_lstore, i_iinc, i_bin, i_dv, i_un, i_lbin, i_lsh, i_i2l, i_l2i, i_lcmp, i_dup, i_dup2, i_pop, i_if, i_icmp, i_goto, swG, i_sw, i_getf, i_puti, i_putz, i_putr, i_ald, i_lald, i_aald, i_ast, i_last, i_aast, i_alen, i_new, i_newi, i_newl, i_newq, i_oinit, i_ret, i_zret, i_lret, i_vret, catS, tk, rpush, isO, i_m1, i_m2, i_acopy, i_callV, i_callS, KRet, lget, lput, lputL, lcl0, isL, lv0, List.map_cons, List.map_nil, List.length_cons, List.length_nil, List.cons_append, List.nil_append, Nat.reduceAdd, Nat.reduceSub, Nat.reduceLeDiff, List.replicate_succ, List.replicate_zero, List.getElem?_cons_succ, List.getElem?_cons_zero, List.set_cons_succ, List.set_cons_zero, true_and, and_true, if_true, if_false, reduceIte, Nat.le_refl, Value.category, va_up_app, eq_self, stp, Nat.reduceBEq, Bool.or_false, Bool.false_or, Bool.true_or, Bool.or_true, or_true, true_or, bx_uu, implies_true, true_implies, not_true, not_false_eq_true, false_implies, and_self, Nat.reduceLT, Int32.reduceAdd, Int32.reduceSub, Int32.reduceMul, Int32.reduceLE, Int32.reduceLT, Int32.reduceToNatClampNeg, va_rf_some, Bool.false_eq_true, k_J7_fill_53178_0 ca, k_J7_fill_53178_1 ca, k_J7_fill_53178_2 ca, k_J7_fill_53178_3 ca, k_J7_fill_53178_4 ca, k_J7_fill_53178_5 ca, k_J7_fill_53178_6 ca, k_J7_fill_53178_7 ca, k_J7_fill_53178_10 ca, k_J7_fill_53178_11 ca, k_J7_fill_53178_12 ca, k_J7_fill_53178_13 ca, k_J7_fill_53178_14 ca, k_J7_fill_53178_17 ca, k_J7_fill_53178_20 ca, ha, en]
      exact k0
    · exact hs.elim
  · exact hs.elim

/-! SnapStacksModel: bounded -/
def bndS (s : Nat → Int32) (k : Nat) (lo hi la : Int32) : Nat → Int32 := upd (upd (upd s (10 + 32 * k + 1) lo) (10 + 32 * k + 2) hi) (10 + 32 * k + 3) la
theorem bndS_o {s : Nat → Int32} {k : Nat} {lo hi la : Int32} {j : Nat} (h : j < 11 + 32 * k ∨ 14 + 32 * k ≤ j) : bndS s k lo hi la j = s j := by
  unfold bndS
  rw [upd_app, upd_app, upd_app, if_neg (by omega), if_neg (by omega), if_neg (by omega)]
theorem rt_cong {s t : Nat → Int32} {o : Nat} (W : WfT s o) (h0 : s o = t o) (h1 : ∀ i, i < 24 → s (o + 8 + i) = t (o + 8 + i)) (h2 : ∀ i, i < 6 → s i = t i) : rt s o = rt t o ∧ WfT t o := by
  obtain ⟨w1, w2, w3⟩ := W
  have hp : ∀ i, i < (s o).toNatClampNeg → s (o + (8 + 3 * i)) = t (o + (8 + 3 * i)) ∧ s (o + (9 + 3 * i)) = t (o + (9 + 3 * i)) ∧ s (o + (10 + 3 * i)) = t (o + (10 + 3 * i)) := fun i hi => by
    have a := h1 (3 * i) (by omega)
    have b := h1 (3 * i + 1) (by omega)
    have c := h1 (3 * i + 2) (by omega)
    rw [show o + (8 + 3 * i) = o + 8 + 3 * i by omega, show o + (9 + 3 * i) = o + 8 + (3 * i + 1) by omega, show o + (10 + 3 * i) = o + 8 + (3 * i + 2) by omega]
    exact ⟨a, b, c⟩
  refine ⟨?_, by rw [← h0]; exact w1, by rw [← h0]; exact w2, fun i hi => ?_⟩
  · unfold rt rateF
    rw [← h0]
    refine sumF_cong fun i hi => ?_
    obtain ⟨a, b, c⟩ := hp i hi
    have q := w3 i hi
    unfold rateP
    dsimp only
    rw [a, h2 _ (vp_lt q.1), h2 _ (vp_lt q.2), b, c]
  · rw [← h0] at hi
    obtain ⟨a, b, c⟩ := hp i hi
    rw [← b, ← c]
    exact w3 i hi
/-! SnapStacksModel: takes -/
def takB (f : Nat → Int32) (n p : Nat) (lo hi : Int32) : Bool := decide (p < n) && isIn (f p) lo hi
/-! SnapStacksModel: isPart -/
def prtN (f : Nat → Int32) (n p : Nat) : Nat := if takB f n p 49 57 = true then (if takB f n (p + 1) 97 102 = true then (if takB f n (p + 2) 97 102 = true then 3 else 2) else 1) else 0
/-! the walk, with an opaque stepper: no unfolding of it by the kernel -/
theorem wpS_a {tab : Nat → IT} {stops : Nat → Bool} {K : KT} {R : RT} {n c sl pc : Nat} {lv : LV} {st : List Value} {h : PH} : wpS tab stops K R (n + 1) c sl pc lv st h = if stops pc = true then K c sl pc lv st h else tab pc (wpS tab stops K R n) R c sl pc lv st h := by
  have e : wpS tab stops K R (n + 1) = fun c sl pc lv st h => if stops pc = true then K c sl pc lv st h else tab pc (wpS tab stops K R n) R c sl pc lv st h := by rw [wpS]
  rw [e]
theorem wpS_z {tab : Nat → IT} {stops : Nat → Bool} {K : KT} {R : RT} {c sl pc : Nat} {lv : LV} {st : List Value} {h : PH} : wpS tab stops K R 0 c sl pc lv st h = K c sl pc lv st h := by
  have e : wpS tab stops K R 0 = K := by rw [wpS]
  rw [e]
theorem goN {tab : Nat → IT} {K : KT} {R : RT} (go : ∀ stops n c sl pc lv st h, tab pc (wpS tab stops K R n) R c sl pc lv st h → K c sl pc lv st h) (stops : Nat → Bool) (n c sl pc : Nat) (lv : LV) (st : List Value) (h : PH)
    (k : ∀ F : Nat → KT, (∀ n c sl pc lv st h, F (n + 1) c sl pc lv st h = if stops pc = true then K c sl pc lv st h else tab pc (F n) R c sl pc lv st h) → (∀ c sl pc lv st h, F 0 c sl pc lv st h = K c sl pc lv st h) → tab pc (F n) R c sl pc lv st h) : K c sl pc lv st h :=
  go stops n c sl pc lv st h (k (wpS tab stops K R) (fun _ _ _ _ _ _ _ => wpS_a) (fun _ _ _ _ _ _ => wpS_z))

/-! SnapStacksModel: goes -/
def tkI (s r : Nat → Int32) (un : Int32) : Nat → Nat → Int32
  | 0 => s
  | n + 1 => tkM (tkI s r un n) r un
def tkC (s r : Nat → Int32) (un : Int32) : Nat → Int32
  | 0 => 0
  | n + 1 => tkC s r un n + tkMN (tkI s r un n) r un
theorem stRM_o {s v : Nat → Int32} {fi : Bool} {k j : Nat} (h : j < 106 + 7 * k ∨ 113 + 7 * k ≤ j) : stRM s v fi k j = s j := by
  unfold stRM
  rw [ovr_out (by omega)]
theorem tkM_6 {s r : Nat → Int32} {un : Int32} {j : Nat} (h : j < 9) : tkM s r un j = s j := by
  unfold tkM
  rw [stPM_o (by omega), stPM_o (by omega), stPM_o (by omega)]
  exact tkP_s (by omega) (by omega)
theorem tkI_6 {s r : Nat → Int32} {un : Int32} {j : Nat} (h : j < 9) : ∀ n, tkI s r un n j = s j
  | 0 => rfl
  | n + 1 => (tkM_6 h).trans (tkI_6 h n)
theorem stPM_r {s r q : Nat → Int32} {un : Int32} {k : Nat} (h : r k = q k) : stPM s r un k = stPM s q un k := by unfold stPM; rw [h]
theorem stPC_r {s r q : Nat → Int32} {k : Nat} (h : r k = q k) : stPC s r k = stPC s q k := by unfold stPC; rw [h]
theorem tkM_r {s r q : Nat → Int32} {un : Int32} (h : ∀ k, k < 3 → r k = q k) : tkM s r un = tkM s q un := by
  unfold tkM
  rw [stPM_r (h 0 (by decide)), stPM_r (h 1 (by decide)), stPM_r (h 2 (by decide))]
theorem tkMN_r {s r q : Nat → Int32} {un : Int32} (h : ∀ k, k < 3 → r k = q k) : tkMN s r un = tkMN s q un := by
  unfold tkMN
  rw [stPM_r (h 0 (by decide)), stPM_r (h 1 (by decide)), stPC_r (h 0 (by decide)), stPC_r (h 1 (by decide)), stPC_r (h 2 (by decide))]
def rts (s : Nat → Int32) : Nat → Int32 := fun k => rt s (10 + 32 * k)
/-! SnapStacksModel: reads -/
def rdG (f : Nat → Int32) (n : Nat) : Nat → Nat → Nat → Int32 × Nat × Int32
  | 0, p, _ => (0, p, 0)
  | k + 1, p, c => if c = 8 ∧ p < n then (-1, p, 2) else if prtN f n p = 3 then (if takB f n (p + 3) 44 44 = true then rdG f n k (p + 4) (c + 1) else (if p + 3 < n then -1 else nI (c + 1), p + 3, 1)) else (-1, p + prtN f n p, 1)
def rdF (f : Nat → Int32) (n : Nat) (re : Int32) : Int32 × Nat × Int32 := if n = 0 then (0, 0, re) else rdG f n 9 0 0
/-! SnapStacksModel: replaces -/
def rpS (s f : Nat → Int32) (o N : Nat) : Nat → Nat → Int32
  | 0 => shS s o N N
  | i + 1 => upd (upd (upd (upd (rpS s f o N i) (o + 8 + 3 * i) (f (4 * i) - 48)) (o + 8 + 3 * i + 1) (f (4 * i + 1) - 97)) (o + 8 + 3 * i + 2) (f (4 * i + 2) - 97)) o (nI (i + 1))
/-! SnapStacksModel: the acts' frame; metal, outside, warm, set, heat, contact, opening -/
def Eq508 (p q : Nat → Int32) : Prop := ∀ j, j < 508 → p j = q j
def RI (m : Nat) (a : Nat → Nat) : Prop := Inj a ∧ ∀ i, ¬ m = a i
def RAg (ca : Nat → ClassId) (h : PH) (m : Nat) (a : Nat → Nat) (s g p : Nat → Int32) (t : Nat) (f : Nat → Int32) (n : Nat) : Prop :=
  ∃ fm at' re bd kp ks iw ip fo, h m = some (eMod a (nI t) (nI n) fm at' re) ∧ h (a 0) = some (.inl (ca 0, 127, .inl s)) ∧ h (a 1) = some (.inl (ca 0, 127, .inl g)) ∧ h (a 2) = some (.inl (ca 0, 508, .inl p)) ∧ h (a 3) = some (.inl (ca 0, 60, .inl f)) ∧ h (a 4) = some (.inl (ca 0, 3, .inl bd)) ∧ h (a 5) = some (.inl (ca 1, 1501, .inr (.inl kp))) ∧ h (a 6) = some (.inl (ca 0, 1501, .inl ks)) ∧ h (a 7) = some (.inl (ca 2, 61, .inl iw)) ∧ h (a 8) = some (.inl (ca 2, 18377, .inl ip)) ∧ h (a 9) = some (.inl (ca 0, 9, .inl fo))
def RAt (ca : Nat → ClassId) (h : PH) (m : Nat) (a : Nat → Nat) (s p : Nat → Int32) (t : Nat) (f : Nat → Int32) (n : Nat) : Prop := ∃ g, RAg ca h m a s g p t f n
def SmR (m : Nat) (a : Nat → Nat) (h h' : PH) : Prop := ∀ x : Nat, ¬ x = m → (∀ i, i < 10 → ¬ x = a i) → h' x = h x
theorem SmR.rf {m : Nat} {a : Nat → Nat} {h : PH} : SmR m a h h := fun _ _ _ => rfl
theorem SmR.tr {m : Nat} {a : Nat → Nat} {h h1 h2 : PH} (x : SmR m a h h1) (y : SmR m a h1 h2) : SmR m a h h2 := fun b p q => (y b p q).trans (x b p q)
theorem SmR.a {m : Nat} {a : Nat → Nat} {h : PH} {i : Nat} (hi : i < 10) (e : Option va_E) : SmR m a h (va_up h (a i) e) := fun _ _ q => va_up_ne _ _ (q i hi)
theorem SmR.m {m : Nat} {a : Nat → Nat} {h : PH} (e : Option va_E) : SmR m a h (va_up h m e) := fun _ q _ => va_up_ne _ _ q
section
variable {ca : Nat → ClassId} {h : PH} {m : Nat} {a : Nat → Nat} {s g p : Nat → Int32} {t : Nat} {f : Nat → Int32} {n : Nat} {post : Option Value → PH → Prop}
theorem RI.ne (I : RI m a) {i j : Nat} (hij : ¬ i = j) : ¬ a i = a j := fun z => hij ((I.1 i j).mp z)
theorem RAg.s0 (I : RI m a) (hR : RAg ca h m a s g p t f n) (s' : Nat → Int32) : RAg ca (va_up h (a 0) (some (.inl (ca 0, 127, .inl s')))) m a s' g p t f n := by
  obtain ⟨fm, at', re, bd, kp, ks, iw, ip, fo, em, e0, e1, e2, e3, e4, e5, e6, e7, e8, e9⟩ := hR
  exact ⟨fm, at', re, bd, kp, ks, iw, ip, fo, (va_up_ne _ _ (I.2 0)).trans em, va_up_self _ _ _, (va_up_ne _ _ (I.ne (by decide))).trans e1, (va_up_ne _ _ (I.ne (by decide))).trans e2, (va_up_ne _ _ (I.ne (by decide))).trans e3, (va_up_ne _ _ (I.ne (by decide))).trans e4, (va_up_ne _ _ (I.ne (by decide))).trans e5, (va_up_ne _ _ (I.ne (by decide))).trans e6, (va_up_ne _ _ (I.ne (by decide))).trans e7, (va_up_ne _ _ (I.ne (by decide))).trans e8, (va_up_ne _ _ (I.ne (by decide))).trans e9⟩
theorem RAg.g1 (I : RI m a) (hR : RAg ca h m a s g p t f n) (g' : Nat → Int32) : RAg ca (va_up h (a 1) (some (.inl (ca 0, 127, .inl g')))) m a s g' p t f n := by
  obtain ⟨fm, at', re, bd, kp, ks, iw, ip, fo, em, e0, e1, e2, e3, e4, e5, e6, e7, e8, e9⟩ := hR
  exact ⟨fm, at', re, bd, kp, ks, iw, ip, fo, (va_up_ne _ _ (I.2 1)).trans em, (va_up_ne _ _ (I.ne (by decide))).trans e0, va_up_self _ _ _, (va_up_ne _ _ (I.ne (by decide))).trans e2, (va_up_ne _ _ (I.ne (by decide))).trans e3, (va_up_ne _ _ (I.ne (by decide))).trans e4, (va_up_ne _ _ (I.ne (by decide))).trans e5, (va_up_ne _ _ (I.ne (by decide))).trans e6, (va_up_ne _ _ (I.ne (by decide))).trans e7, (va_up_ne _ _ (I.ne (by decide))).trans e8, (va_up_ne _ _ (I.ne (by decide))).trans e9⟩
theorem RAg.p2 (I : RI m a) (hR : RAg ca h m a s g p t f n) (p' : Nat → Int32) : RAg ca (va_up h (a 2) (some (.inl (ca 0, 508, .inl p')))) m a s g p' t f n := by
  obtain ⟨fm, at', re, bd, kp, ks, iw, ip, fo, em, e0, e1, e2, e3, e4, e5, e6, e7, e8, e9⟩ := hR
  exact ⟨fm, at', re, bd, kp, ks, iw, ip, fo, (va_up_ne _ _ (I.2 2)).trans em, (va_up_ne _ _ (I.ne (by decide))).trans e0, (va_up_ne _ _ (I.ne (by decide))).trans e1, va_up_self _ _ _, (va_up_ne _ _ (I.ne (by decide))).trans e3, (va_up_ne _ _ (I.ne (by decide))).trans e4, (va_up_ne _ _ (I.ne (by decide))).trans e5, (va_up_ne _ _ (I.ne (by decide))).trans e6, (va_up_ne _ _ (I.ne (by decide))).trans e7, (va_up_ne _ _ (I.ne (by decide))).trans e8, (va_up_ne _ _ (I.ne (by decide))).trans e9⟩
theorem RAg.b4 (I : RI m a) (hR : RAg ca h m a s g p t f n) (b' : Nat → Int32) : RAg ca (va_up h (a 4) (some (.inl (ca 0, 3, .inl b')))) m a s g p t f n := by
  obtain ⟨fm, at', re, bd, kp, ks, iw, ip, fo, em, e0, e1, e2, e3, e4, e5, e6, e7, e8, e9⟩ := hR
  exact ⟨fm, at', re, b', kp, ks, iw, ip, fo, (va_up_ne _ _ (I.2 4)).trans em, (va_up_ne _ _ (I.ne (by decide))).trans e0, (va_up_ne _ _ (I.ne (by decide))).trans e1, (va_up_ne _ _ (I.ne (by decide))).trans e2, (va_up_ne _ _ (I.ne (by decide))).trans e3, va_up_self _ _ _, (va_up_ne _ _ (I.ne (by decide))).trans e5, (va_up_ne _ _ (I.ne (by decide))).trans e6, (va_up_ne _ _ (I.ne (by decide))).trans e7, (va_up_ne _ _ (I.ne (by decide))).trans e8, (va_up_ne _ _ (I.ne (by decide))).trans e9⟩
theorem RAg.t3 (I : RI m a) (hR : RAg ca h m a s g p t f n) (f' : Nat → Int32) : RAg ca (va_up h (a 3) (some (.inl (ca 0, 60, .inl f')))) m a s g p t f' n := by
  obtain ⟨fm, at', re, bd, kp, ks, iw, ip, fo, em, e0, e1, e2, e3, e4, e5, e6, e7, e8, e9⟩ := hR
  exact ⟨fm, at', re, bd, kp, ks, iw, ip, fo, (va_up_ne _ _ (I.2 3)).trans em, (va_up_ne _ _ (I.ne (by decide))).trans e0, (va_up_ne _ _ (I.ne (by decide))).trans e1, (va_up_ne _ _ (I.ne (by decide))).trans e2, va_up_self _ _ _, (va_up_ne _ _ (I.ne (by decide))).trans e4, (va_up_ne _ _ (I.ne (by decide))).trans e5, (va_up_ne _ _ (I.ne (by decide))).trans e6, (va_up_ne _ _ (I.ne (by decide))).trans e7, (va_up_ne _ _ (I.ne (by decide))).trans e8, (va_up_ne _ _ (I.ne (by decide))).trans e9⟩
theorem RAt.m8 (hR : RAt ca h m a s p t f n) : ∃ l, h m = some (.inr (8, l)) := by
  obtain ⟨g, fm, at', re, bd, kp, ks, iw, ip, fo, em, -⟩ := hR
  exact ⟨_, em⟩
end
theorem isIn0 {v b : Int32} {B : Nat} (hb : b.toInt = (B : Int)) (h : isIn v 0 b = true) : ∃ V, V ≤ B ∧ v = nI V := by
  unfold isIn at h
  simp only [Bool.and_eq_true, Bool.not_eq_true', decide_eq_false_iff_not] at h
  exact nI_of2 hb h.1 (Int32.not_lt.mp h.2)
theorem inv_le : (-10000001 : Int32) ≤ -10000001 := by decide
/-! answers, both sides' -/
def aMetal (s : Nat → Int32) (x y : Int32) : Int32 := if isIn x 0 5 = true then (if isIn y 0 30 = true then s x.toNatClampNeg else -10000001) else -10000001
def aOutside (s : Nat → Int32) (x : Int32) : Int32 := if isIn x (-500) 1500 = true then s 8 else -10000001
def aWarm (s : Nat → Int32) (x y : Int32) : Int32 := if isIn x 0 2 = true then (if isIn y (-500) 1500 = true then s (106 + 7 * x.toNatClampNeg) else -10000001) else -10000001
def aSet (s : Nat → Int32) (x y : Int32) : Int32 := if isSet x y = true then s (6 + x.toNatClampNeg) else -10000001
/-! SnapStacksModel: heat, contact, opening, part, cut, bounds -/
def aHeat (s : Nat → Int32) (x y z : Int32) : Int32 := if isIn x 0 2 = true then (if isIn y 0 99 = true then (if isIn z 1 99 = true then 100 * s (106 + 7 * x.toNatClampNeg + 1) + s (106 + 7 * x.toNatClampNeg + 2) else -10000001) else -10000001) else -10000001
def fHeat (s : Nat → Int32) (x y z : Int32) : Nat → Int32 := upd (upd s (106 + 7 * x.toNatClampNeg + 1) y) (106 + 7 * x.toNatClampNeg + 2) z
def aContact (s : Nat → Int32) (x y : Int32) : Int32 := if isIn x 0 2 = true then (if isIn y 0 1 = true then b2i (closedF y (s (10 + 32 * x.toNatClampNeg + 4))) else -10000001) else -10000001
def fOpening (s : Nat → Int32) (x y : Int32) : Nat → Int32 := upd s (106 + 7 * x.toNatClampNeg + 3) y
def aOpening (s : Nat → Int32) (x y : Int32) : Int32 := if isIn x 0 2 = true then (if isIn y 0 1 = true then fOpening s x y 109 + fOpening s x y 116 + fOpening s x y 123 else -10000001) else -10000001
theorem WfT.n {s : Nat → Int32} {o : Nat} (W : WfT s o) : s o = nI (s o).toNatClampNeg ∧ (s o).toNatClampNeg ≤ 8 := by
  obtain ⟨N, hN, e1, e2⟩ := tnI W.1
  exact ⟨by rw [e2]; exact e1, W.2.1⟩
theorem WfS.k {s : Nat → Int32} (W : WfS s) {k : Nat} (hk : k < 3) : WfT s (10 + 32 * k) := by
  have hk3 : k = 0 ∨ k = 1 ∨ k = 2 := by omega
  rcases hk3 with rfl | rfl | rfl
  · exact W.1
  · exact W.2.1
  · exact W.2.2
def fPart (s : Nat → Int32) (k N : Nat) (x y z : Int32) : Nat → Int32 := upd (upd (upd (upd s (10 + 32 * k + 8 + 3 * N) x) (10 + 32 * k + 8 + 3 * N + 1) y) (10 + 32 * k + 8 + 3 * N + 2) z) (10 + 32 * k) (nI (N + 1))
def nPt (s : Nat → Int32) (x : Int32) : Nat := (s (10 + 32 * x.toNatClampNeg)).toNatClampNeg
def aPart (s : Nat → Int32) (x y z w : Int32) : Int32 := if isIn x 0 2 = true then (if isIn y 1 9 = true then (if isIn z 0 5 = true then (if isIn w 0 5 = true then (if nPt s x = 8 then -10000003 else nI (nPt s x + 1)) else -10000001) else -10000001) else -10000001) else -10000001
def aCut (s : Nat → Int32) (x y : Int32) : Int32 := if isIn x 0 2 = true then (if isIn y 1 8 = true then (if nPt s x < y.toNatClampNeg then -10000002 else nI (nPt s x - y.toNatClampNeg)) else -10000001) else -10000001
theorem isIn1 {v a b : Int32} {B : Nat} (ha : (0 : Int32) ≤ a) (hb : b.toInt = (B : Int)) (h : isIn v a b = true) : ∃ V, V ≤ B ∧ v = nI V := by
  unfold isIn at h
  simp only [Bool.and_eq_true, Bool.not_eq_true', decide_eq_false_iff_not] at h
  refine nI_of2 hb (fun z => h.1 ?_) (Int32.not_lt.mp h.2)
  rw [Int32.lt_iff_toInt_lt] at z ⊢
  rw [Int32.le_iff_toInt_le] at ha
  omega
def vBounds (x lo hi la : Int32) : Bool := isIn x 0 2 && (isIn lo (-90000) 89999 && (isIn hi (lo + 1) 90000 && isIn la 0 5))
def aBounds (s : Nat → Int32) (x lo hi la : Int32) : Int32 := if vBounds x lo hi la = true then rt s (10 + 32 * x.toNatClampNeg) * (s (106 + 7 * x.toNatClampNeg) - 200) else -10000001
/-! SnapStacksModel: tick, read, undo, type, clearText, fault -/
def aTick (s : Nat → Int32) (x : Int32) : Int32 := if isIn x 1 200 = true then tkC s (rts s) (s 6) x.toNatClampNeg else -10000001
def rdN (f : Nat → Int32) (n : Nat) : Int32 := (rdF f n 0).1
def aRead (f : Nat → Int32) (n : Nat) (x : Int32) : Int32 := if isIn x 0 2 = true then (if rdN f n < 0 then -10000002 else rdN f n) else -10000001
/-! without begins -/
def aFault (f : Nat → Int32) (n : Nat) (x : Int32) : Int32 := if isIn x 0 1 = true then (if (rdF f n 0).1 < 0 then (if x = 0 then nI (rdF f n 0).2.1 else (rdF f n 0).2.2) else -10000004) else -10000001
/-! SnapStacksModel: stripOf, partOf, roomOf, count, bend, tripsAt -/
theorem sub_nI {a b : Nat} (h : b ≤ a) : nI a - nI b = nI (a - b) := by
  have e : nI a = nI (a - b) + nI b := by rw [nI_add]; exact congrArg nI (by omega)
  rw [e, Int32.add_sub_cancel]
def sOf (s : Nat → Int32) (o : Nat) (r w : Int32) : Int32 := if w = 0 then s o else if w = 1 then sumF (fun i => s (o + (8 + 3 * i))) (s o).toNatClampNeg else if w = 2 then rt s o else if w = 3 then rt s o * (r - 200) else if w = 11 then b2i (closedF (s (o + 7)) (s (o + 4))) else s (o + w.toNatClampNeg - 3)
def aStripOf (s : Nat → Int32) (x w : Int32) : Int32 := if isIn x 0 2 = true then (if isIn w 0 11 = true then sOf s (10 + 32 * x.toNatClampNeg) (s (106 + 7 * x.toNatClampNeg)) w else -10000001) else -10000001
def pOf (s : Nat → Int32) (o I W : Nat) : Int32 := if W = 3 then rateP (fun i => s (o + (8 + 3 * i))) (fun i => s (o + (9 + 3 * i))) (fun i => s (o + (10 + 3 * i))) s I else s (o + 8 + 3 * I + W)
def aPartOf (s : Nat → Int32) (x i w : Int32) : Int32 := if isIn x 0 2 = true then (if isIn w 0 3 = true then (if i < 0 then -10000001 else if s (10 + 32 * x.toNatClampNeg) ≤ i then -10000004 else pOf s (10 + 32 * x.toNatClampNeg) i.toNatClampNeg w.toNatClampNeg) else -10000001) else -10000001
def aRoomOf (s : Nat → Int32) (x w : Int32) : Int32 := if isIn x 0 2 = true then (if isIn w 0 6 = true then (if w ≤ 4 then s (106 + 7 * x.toNatClampNeg + w.toNatClampNeg) else if s 9 = 0 then -10000004 else s (106 + 7 * x.toNatClampNeg + w.toNatClampNeg)) else -10000001) else -10000001
def aCount (s : Nat → Int32) (t n : Nat) (w : Int32) : Int32 := if w = 0 then s 9 else if w = 1 then s 16 + s 48 + s 80 else if w = 2 then s 8 else if w = 3 then nI t else if w = 4 then nI n else if w = 5 then s 6 else if w = 6 then s 7 else if isIn w 10 15 = true then s (w - 10).toNatClampNeg else -10000001
def aBend (s : Nat → Int32) (x w : Int32) : Int32 := if isIn x 0 2 = true then (if isIn w (-500) 1500 = true then rt s (10 + 32 * x.toNatClampNeg) * (w - 200) else -10000001) else -10000001
/-! the least warmth that pulls up, the greatest that pulls back: r warmths left, k seen -/
def tpU (by' hi : Int32) : Nat → Nat → Int32
  | 0, _ => -10000004
  | r + 1, k => if by' * (-500 + nI k - 200) < hi then tpU by' hi r (k + 1) else -500 + nI k
def tpD (by' lo : Int32) : Nat → Nat → Int32
  | 0, _ => -10000004
  | r + 1, k => if lo < by' * (1500 - nI k - 200) then tpD by' lo r (k + 1) else 1500 - nI k
/-! SnapStacksModel: sign, snapsOfAll, keeps, loop -/
def sgK (s : Nat → Int32) (k : Nat) (v : Int64) : Int64 := 6 * (2 * (v * 2001 + (s (106 + 7 * k)).toInt64 - -500) + (s (14 + 32 * k)).toInt64) + (s (15 + 32 * k)).toInt64
def sgS (s : Nat → Int32) : Int64 := sgK s 2 (sgK s 1 (sgK s 0 0))
section
variable {ca : Nat → ClassId} {h : PH} {m : Nat} {a : Nat → Nat} {s g p : Nat → Int32} {t : Nat} {f : Nat → Int32} {n : Nat}
theorem RAg.k5 (I : RI m a) (hR : RAg ca h m a s g p t f n) (k' : Nat → Int64) : RAg ca (va_up h (a 5) (some (.inl (ca 1, 1501, .inr (.inl k'))))) m a s g p t f n := by
  obtain ⟨fm, at', re, bd, kp, ks, iw, ip, fo, em, e0, e1, e2, e3, e4, e5, e6, e7, e8, e9⟩ := hR
  exact ⟨fm, at', re, bd, k', ks, iw, ip, fo, (va_up_ne _ _ (I.2 5)).trans em, (va_up_ne _ _ (I.ne (by decide))).trans e0, (va_up_ne _ _ (I.ne (by decide))).trans e1, (va_up_ne _ _ (I.ne (by decide))).trans e2, (va_up_ne _ _ (I.ne (by decide))).trans e3, (va_up_ne _ _ (I.ne (by decide))).trans e4, va_up_self _ _ _, (va_up_ne _ _ (I.ne (by decide))).trans e6, (va_up_ne _ _ (I.ne (by decide))).trans e7, (va_up_ne _ _ (I.ne (by decide))).trans e8, (va_up_ne _ _ (I.ne (by decide))).trans e9⟩
theorem RAg.k6 (I : RI m a) (hR : RAg ca h m a s g p t f n) (k' : Nat → Int32) : RAg ca (va_up h (a 6) (some (.inl (ca 0, 1501, .inl k')))) m a s g p t f n := by
  obtain ⟨fm, at', re, bd, kp, ks, iw, ip, fo, em, e0, e1, e2, e3, e4, e5, e6, e7, e8, e9⟩ := hR
  exact ⟨fm, at', re, bd, kp, k', iw, ip, fo, (va_up_ne _ _ (I.2 6)).trans em, (va_up_ne _ _ (I.ne (by decide))).trans e0, (va_up_ne _ _ (I.ne (by decide))).trans e1, (va_up_ne _ _ (I.ne (by decide))).trans e2, (va_up_ne _ _ (I.ne (by decide))).trans e3, (va_up_ne _ _ (I.ne (by decide))).trans e4, (va_up_ne _ _ (I.ne (by decide))).trans e5, va_up_self _ _ _, (va_up_ne _ _ (I.ne (by decide))).trans e7, (va_up_ne _ _ (I.ne (by decide))).trans e8, (va_up_ne _ _ (I.ne (by decide))).trans e9⟩
end
theorem updL_lt {f : Nat → Int64} {g : Nat → Int64} {k : Nat} {v : Int64} (hf : ∀ i, i < k → f i = g i) (hv : v = g k) : ∀ i, i < k + 1 → vp_updL f k v i = g i := by
  intro i hi
  unfold vp_updL
  by_cases q : i = k
  · subst q; simp [hv]
  · simp [q, hf i (by omega)]
theorem upd_lt {f : Nat → Int32} {g : Nat → Int32} {k : Nat} {v : Int32} (hf : ∀ i, i < k → f i = g i) (hv : v = g k) : ∀ i, i < k + 1 → upd f k v i = g i := by
  intro i hi
  rw [upd_app]
  by_cases q : i = k
  · subst q; rw [if_pos rfl, hv]
  · rw [if_neg q, hf i (by omega)]
theorem cmpe (x y : Int64) : (lg_cmp x y = 0) = (x = y) := propext (lg_cmp_eq x y)
/-! SnapStacksModel: stacks -/
theorem n60 : ¬ (6 : Int32) = 0 := by decide
def MC (h : PH) (m : Nat) (a : Nat → Nat) : Prop := ∃ st len fm at' re, h m = some (eMod a st len fm at' re)
theorem isIn1_ne {v b : Int32} (h : isIn v 1 b = true) : ¬ v = 0 := by
  intro z
  rw [z] at h
  unfold isIn at h
  rw [show decide ((0 : Int32) < 1) = true from rfl] at h
  simp at h
def FoIs (fo : Nat → Int32) (kk : Nat → Nat) (P : Nat) : Prop := ∀ n, n < P → fo (3 * n) = nI (kk n / 36 + 1) ∧ fo (3 * n + 1) = nI (kk n / 6 % 6) ∧ fo (3 * n + 2) = nI (kk n % 6)
theorem FoIs.s {fo : Nat → Int32} {kk : Nat → Nat} {n : Nat} (h : FoIs fo kk n) : FoIs (upd (upd (upd fo (3 * n) (nI (kk n / 36 + 1))) (3 * n + 1) (nI (kk n / 6 % 6))) (3 * n + 2) (nI (kk n % 6))) kk (n + 1) := by
  intro i hi
  by_cases q : i = n
  · subst q
    refine ⟨?_, ?_, ?_⟩
    · rw [upd_app, if_neg (by omega), upd_app, if_neg (by omega), upd_app, if_pos rfl]
    · rw [upd_app, if_neg (by omega), upd_app, if_pos rfl]
    · rw [upd_app, if_pos rfl]
  · obtain ⟨x, y, z⟩ := h i (by omega)
    refine ⟨?_, ?_, ?_⟩
    · rw [upd_app, if_neg (by omega), upd_app, if_neg (by omega), upd_app, if_neg (by omega)]; exact x
    · rw [upd_app, if_neg (by omega), upd_app, if_neg (by omega), upd_app, if_neg (by omega)]; exact y
    · rw [upd_app, if_neg (by omega), upd_app, if_neg (by omega), upd_app, if_neg (by omega)]; exact z
/-! SnapStacksModel: laysPair, laysPairs -/
def NumOk (s : Nat → Int32) : Prop := ∀ j, j < 6 → ∃ N, N ≤ 30 ∧ s j = nI N
section
variable {ca : Nat → ClassId} {h : PH} {m : Nat} {a : Nat → Nat}
theorem MC.up (hm : MC h m a) {x : Nat} (hx : ¬ m = x) (e : Option va_E) : MC (va_up h x e) m a := by
  obtain ⟨st, len, fm, at', re, hm⟩ := hm
  exact ⟨st, len, fm, at', re, (va_up_ne _ _ hx).trans hm⟩
end
/-! SnapStacksModel: finds, stack -/
section
variable {ca : Nat → ClassId} {h : PH} {m : Nat} {a : Nat → Nat} {s g p : Nat → Int32} {t : Nat} {f : Nat → Int32} {n : Nat}
theorem RAg.w7 (I : RI m a) (hR : RAg ca h m a s g p t f n) (k' : Nat → Int32) : RAg ca (va_up h (a 7) (some (.inl (ca 2, 61, .inl k')))) m a s g p t f n := by
  obtain ⟨fm, at', re, bd, kp, ks, iw, ip, fo, em, e0, e1, e2, e3, e4, e5, e6, e7, e8, e9⟩ := hR
  exact ⟨fm, at', re, bd, kp, ks, k', ip, fo, (va_up_ne _ _ (I.2 7)).trans em, (va_up_ne _ _ (I.ne (by decide))).trans e0, (va_up_ne _ _ (I.ne (by decide))).trans e1, (va_up_ne _ _ (I.ne (by decide))).trans e2, (va_up_ne _ _ (I.ne (by decide))).trans e3, (va_up_ne _ _ (I.ne (by decide))).trans e4, (va_up_ne _ _ (I.ne (by decide))).trans e5, (va_up_ne _ _ (I.ne (by decide))).trans e6, va_up_self _ _ _, (va_up_ne _ _ (I.ne (by decide))).trans e8, (va_up_ne _ _ (I.ne (by decide))).trans e9⟩
theorem RAg.f9 (I : RI m a) (hR : RAg ca h m a s g p t f n) (k' : Nat → Int32) : RAg ca (va_up h (a 9) (some (.inl (ca 0, 9, .inl k')))) m a s g p t f n := by
  obtain ⟨fm, at', re, bd, kp, ks, iw, ip, fo, em, e0, e1, e2, e3, e4, e5, e6, e7, e8, e9⟩ := hR
  exact ⟨fm, at', re, bd, kp, ks, iw, ip, k', (va_up_ne _ _ (I.2 9)).trans em, (va_up_ne _ _ (I.ne (by decide))).trans e0, (va_up_ne _ _ (I.ne (by decide))).trans e1, (va_up_ne _ _ (I.ne (by decide))).trans e2, (va_up_ne _ _ (I.ne (by decide))).trans e3, (va_up_ne _ _ (I.ne (by decide))).trans e4, (va_up_ne _ _ (I.ne (by decide))).trans e5, (va_up_ne _ _ (I.ne (by decide))).trans e6, (va_up_ne _ _ (I.ne (by decide))).trans e7, (va_up_ne _ _ (I.ne (by decide))).trans e8, va_up_self _ _ _⟩
end
