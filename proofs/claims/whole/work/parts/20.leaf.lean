/-! static methods of numbers alone -/
def b2i (b : Bool) : Int32 := if b = true then 1 else 0
theorem b2i_01 (b : Bool) : b2i b = 0 ∨ b2i b = 1 := by cases b <;> simp [b2i]
theorem c1_nil : ∀ v ∈ ([] : List Value), v.category = 1 := fun _ h => absurd h List.not_mem_nil
theorem c1_int {x : Int32} {l : List Value} (h : ∀ v ∈ l, v.category = 1) : ∀ v ∈ (Value.int x :: l), v.category = 1 := List.forall_mem_cons.mpr ⟨rfl, h⟩
theorem c1_ref {x : Nat} {l : List Value} (h : ∀ v ∈ l, v.category = 1) : ∀ v ∈ (Value.ref x :: l), v.category = 1 := List.forall_mem_cons.mpr ⟨rfl, h⟩
def isIn (v a b : Int32) : Bool := decide (a ≤ v) && decide (v ≤ b)
def sp_X7_isWithin (ca : Nat → ClassId) : SPEC := fun av h post => match av with
  | [.int v, .int a, .int b] => post (some (.int (b2i (isIn v a b)))) h
  | _ => False
def k_X7_isWithin (ca : Nat → ClassId) : Nat → IT := fun pc => lk pc [(0, i_iload 1 1),
  (1, i_iload 0 2),
  (2, i_icmp (fun x y => y < x) 14 5),
  (5, i_iload 0 6),
  (6, i_iload 2 7),
  (7, i_icmp (fun x y => y < x) 14 10),
  (10, i_push (.int 1) 11),
  (11, i_goto 15),
  (14, i_push (.int 0) 15),
  (15, i_zret)]
set_option maxRecDepth 20000 in
theorem t_X7_isWithin : Tb k_X7_isWithin yX7_isWithin cX7_isWithin 3 (some .boolean) 0 0 0 := by
  intro l D ca A p e s m args below meth c post X
  unfold k_X7_isWithin
  refine snd_cons (snd_iload_n X dX7_isWithin_0 rfl) ?_
  refine snd_cons (snd_iload_n X dX7_isWithin_1 rfl) ?_
  refine snd_cons (snd_icmp_gt X dX7_isWithin_2 (by decide)) ?_
  refine snd_cons (snd_iload_n X dX7_isWithin_5 rfl) ?_
  refine snd_cons (snd_iload_n X dX7_isWithin_6 rfl) ?_
  refine snd_cons (snd_icmp_gt X dX7_isWithin_7 (by decide)) ?_
  refine snd_cons (snd_iconst X dX7_isWithin_10 (by decide)) ?_
  refine snd_cons (snd_goto X dX7_isWithin_11 (by decide)) ?_
  refine snd_cons (snd_iconst X dX7_isWithin_14 (by decide)) ?_
  refine snd_cons (snd_zret X dX7_isWithin_15) ?_
  exact snd_nil
theorem k_X7_isWithin_0 (ca : Nat → ClassId) : k_X7_isWithin ca 0 = i_iload 1 1 := rfl
theorem k_X7_isWithin_1 (ca : Nat → ClassId) : k_X7_isWithin ca 1 = i_iload 0 2 := rfl
theorem k_X7_isWithin_2 (ca : Nat → ClassId) : k_X7_isWithin ca 2 = i_icmp (fun x y => y < x) 14 5 := rfl
theorem k_X7_isWithin_5 (ca : Nat → ClassId) : k_X7_isWithin ca 5 = i_iload 0 6 := rfl
theorem k_X7_isWithin_6 (ca : Nat → ClassId) : k_X7_isWithin ca 6 = i_iload 2 7 := rfl
theorem k_X7_isWithin_7 (ca : Nat → ClassId) : k_X7_isWithin ca 7 = i_icmp (fun x y => y < x) 14 10 := rfl
theorem k_X7_isWithin_10 (ca : Nat → ClassId) : k_X7_isWithin ca 10 = i_push (.int 1) 11 := rfl
theorem k_X7_isWithin_11 (ca : Nat → ClassId) : k_X7_isWithin ca 11 = i_goto 15 := rfl
theorem k_X7_isWithin_14 (ca : Nat → ClassId) : k_X7_isWithin ca 14 = i_push (.int 0) 15 := rfl
theorem k_X7_isWithin_15 (ca : Nat → ClassId) : k_X7_isWithin ca 15 = i_zret := rfl
set_option maxHeartbeats 4000000 in
set_option maxRecDepth 20000 in
theorem ok_X7_isWithin (l : Launch) (D : va_G) (ca : Nat → ClassId) : OkAll l D ca yX7_isWithin cX7_isWithin 3 (some .boolean) 0 0 0 (sp_X7_isWithin ca) := by
  intro av h post hs
  unfold sp_X7_isWithin at hs
  split at hs
  · refine okM_of t_X7_isWithin (by decide) (c1_int (c1_int (c1_int c1_nil))) (by decide) ?_
    intro K go
    refine go (fun _ => false) 20 _ _ _ _ _ _ ?_
    simp only [wpS, cond_true, cond_false, i_push, i_iload, i_lload, i_aload, i_istore, i_astore, i_lstore, i_iinc, i_bin, i_dv, i_un, i_lbin, i_lsh, i_i2l, i_l2i, i_lcmp, i_dup, i_dup2, i_pop, i_if, i_icmp, i_goto, swG, i_sw, i_getf, i_puti, i_putz, i_putr, i_ald, i_lald, i_aald, i_ast, i_last, i_aast, i_alen, i_new, i_newi, i_newl, i_newq, i_oinit, i_ret, i_zret, i_lret, i_vret, catS, tk, rpush, isO, i_m1, i_m2, i_acopy, i_callV, i_callS, KRet, lget, lput, lputL, lcl0, isL, lv0, List.map_cons, List.map_nil, List.length_cons, List.length_nil, List.cons_append, List.nil_append, Nat.reduceAdd, Nat.reduceSub, Nat.reduceLeDiff, List.replicate_succ, List.replicate_zero, List.getElem?_cons_succ, List.getElem?_cons_zero, List.set_cons_succ, List.set_cons_zero, true_and, and_true, if_true, if_false, reduceIte, Nat.le_refl, Value.category, k_X7_isWithin_0 ca, k_X7_isWithin_1 ca, k_X7_isWithin_2 ca, k_X7_isWithin_5 ca, k_X7_isWithin_6 ca, k_X7_isWithin_7 ca, k_X7_isWithin_10 ca, k_X7_isWithin_11 ca, k_X7_isWithin_14 ca, k_X7_isWithin_15 ca]
    trace_state
    sorry
  · exact hs.elim
