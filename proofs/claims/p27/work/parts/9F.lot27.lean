/-! the law's own small methods: long locals by index; low; lot, that reads the script -/
section
variable {D : va_G} {ca : Nat → ClassId} {A : Nat → Prop} {nL : Nat} {p : Program} {l : Launch} {e : Env} {R : Room} {s : State} {m : MethodId} {args : Array Value} {below : List Frame} {meth : Method} {c : Code} {Q : State → Prop} {own nm : String} {cc : ByteArray} {ret : Option FieldType} {KR : RT} {pc : Nat}
theorem snd_lload (X : Ax D ca A nL own nm cc ret p s m args meth c) {i : Nat} (hdg : decode cc pc = .ok (.lload i, 2)) : Snd D A nL p l e R s m args below meth c Q KR (i_lload i (pc + 2)) pc := by
  intro K hK c1 sl lv st h hj H locs L ls a1 a2 a3 a4 a5
  unfold i_lload at hj
  split at hj
  · rename_i x hx
    exact lv_lload X.1 X.2.1 hdg (a5.get hx) (hK _ _ _ _ _ _ hj H locs L ls a1 a2 a3 a4 a5)
  · exact hj.elim
theorem snd_lstore (X : Ax D ca A nL own nm cc ret p s m args meth c) {i : Nat} (hdg : decode cc pc = .ok (.lstore i, 2)) (hn : i + 1 < nL) : Snd D A nL p l e R s m args below meth c Q KR (i_lstore i (pc + 2)) pc := by
  intro K hK c1 sl lv st h hj H locs L ls a1 a2 a3 a4 a5
  unfold i_lstore at hj
  split at hj
  · exact lv_lstore X.1 X.2.1 hdg a5 hn rfl (fun ls' h' => hK _ _ _ _ _ _ hj H locs L ls' a1 a2 a3 a4 (LH.putL h'))
  · exact hj.elim
def i_slen (b L npc : Nat) : IT := fun K _ c sl _ lv st h => match st with
  | .ref a :: st' => a = b ∧ K c sl npc lv (.int (nI L) :: st') h
  | _ => False
def i_sld (b L : Nat) (xs : Nat → Int32) (npc : Nat) : IT := fun K _ c sl _ lv st h => match st with
  | .int i :: .ref a :: st' => a = b ∧ vp_in i L ∧ K c sl npc lv (.int (xs i.toNatClampNeg) :: st') h
  | _ => False
theorem snd_slen (X : Ax D ca A nL own nm cc ret p s m args meth c) {b L : Nat} {xs : Nat → Int32} (hX : va_X b L xs s s.heap) (hbl : b < s.heap.size) (hbA : ¬ A b) (hdg : decode cc pc = .ok (.arraylength, 1)) : Snd D A nL p l e R s m args below meth c Q KR (i_slen b L (pc + 1)) pc := by
  intro K hK c1 sl lv st h hj H locs L' ls a1 a2 a3 a4 a5
  unfold i_slen at hj
  split at hj
  · obtain ⟨rfl, hj⟩ := hj
    exact va_slen X.1 X.2.1 hX hbl hbA a4 hdg (hK _ _ _ _ _ _ hj H locs L' ls a1 a2 a3 a4 a5)
  · exact hj.elim
theorem snd_sld (X : Ax D ca A nL own nm cc ret p s m args meth c) {b L : Nat} {xs : Nat → Int32} (hX : va_X b L xs s s.heap) (hbl : b < s.heap.size) (hbA : ¬ A b) (hdg : decode cc pc = .ok (.iaload, 1)) : Snd D A nL p l e R s m args below meth c Q KR (i_sld b L xs (pc + 1)) pc := by
  intro K hK c1 sl lv st h hj H locs L' ls a1 a2 a3 a4 a5
  unfold i_sld at hj
  split at hj
  · obtain ⟨rfl, hin, hj⟩ := hj
    exact va_sld X.1 X.2.1 hX hbl hbA a4 hin hdg (hK _ _ _ _ _ _ hj H locs L' ls a1 a2 a3 a4 a5)
  · exact hj.elim
end
/-! low -/
def lowI (v m : Int32) : Int32 := (v &&& 2147483647) - (v &&& 2147483647) / m * m
theorem and_nn (v : Int32) : ∃ V, V < 2 ^ 31 ∧ v &&& 2147483647 = nI V := by
  refine ⟨(v &&& 2147483647).toBitVec.toNat, ?_, ?_⟩
  · rw [Int32.toBitVec_and, BitVec.toNat_and]
    have e : (2147483647 : Int32).toBitVec.toNat = 2147483647 := rfl
    rw [e]
    have h := Nat.and_le_right (n := v.toBitVec.toNat) (m := 2147483647)
    omega
  · apply Int32.toBitVec_inj.mp
    show _ = (Int32.ofNat _).toBitVec
    rw [Int32.toBitVec_ofNat', BitVec.ofNat_toNat, BitVec.setWidth_eq]
theorem lowI_n (v : Int32) {M : Nat} (h0 : 0 < M) (hM : M < 2 ^ 31) : ∃ r, r < M ∧ lowI v (nI M) = nI r := by
  obtain ⟨V, hV, e⟩ := and_nn v
  refine ⟨V % M, Nat.mod_lt _ h0, ?_⟩
  unfold lowI
  rw [e]
  exact pk_rem hV h0 hM
def sp_L_low (_ : Nat → ClassId) : SPEC := fun av h post => match av with
  | [.int v, .int m] => ¬ m = 0 ∧ post (some (.int (lowI v m))) h
  | _ => False
def k_L_low (ca : Nat → ClassId) : Nat → IT := fun pc => lk pc [(0, i_iload 0 1),
  (1, i_push (.int 2147483647) 3),
  (3, i_bin (fun x y => x &&& y) 4),
  (4, i_iload 1 5),
  (5, i_dv (fun x y => x - x / y * y) 6),
  (6, i_ret)]
set_option maxRecDepth 20000 in
theorem t_L_low : Tb k_L_low yL_low cL_low 2 (some .int) 0 0 0 := by
  intro l D ca A p e s m args below meth c post X
  unfold k_L_low
  refine snd_cons (snd_iload_n X dL_low_0 rfl) ?_
  refine snd_cons (snd_ldc X w_317 dL_low_1) ?_
  refine snd_cons (snd_iand X dL_low_3) ?_
  refine snd_cons (snd_iload_n X dL_low_4 rfl) ?_
  refine snd_cons (snd_irem X dL_low_5) ?_
  refine snd_cons (snd_ret X dL_low_6) ?_
  exact snd_nil
theorem k_L_low_0 (ca : Nat → ClassId) : k_L_low ca 0 = i_iload 0 1 := rfl
theorem k_L_low_1 (ca : Nat → ClassId) : k_L_low ca 1 = i_push (.int 2147483647) 3 := rfl
theorem k_L_low_3 (ca : Nat → ClassId) : k_L_low ca 3 = i_bin (fun x y => x &&& y) 4 := rfl
theorem k_L_low_4 (ca : Nat → ClassId) : k_L_low ca 4 = i_iload 1 5 := rfl
theorem k_L_low_5 (ca : Nat → ClassId) : k_L_low ca 5 = i_dv (fun x y => x - x / y * y) 6 := rfl
theorem k_L_low_6 (ca : Nat → ClassId) : k_L_low ca 6 = i_ret := rfl
set_option maxHeartbeats 4000000 in
set_option maxRecDepth 20000 in
theorem ok_L_low (l : Launch) (D : va_G) (ca : Nat → ClassId) : OkAll l D ca yL_low cL_low 2 (some .int) 0 0 0 (sp_L_low ca) := by
  intro av h post hs
  unfold sp_L_low at hs
  split at hs
  · obtain ⟨hm, hs⟩ := hs
    unfold lowI at hs
    refine okM_of t_L_low (by decide +kernel) (c1_int (c1_int c1_nil)) (Nat.le_of_ble_eq_true rfl) ?_
    intro K go
    refine goN go (stp []) 160 _ _ _ _ _ _ (fun F hF hF0 => ?_)
    simp only [hF, hF0, ite_not, i_push, i_iload, i_lload, i_aload, i_istore, i_astore, i_lstore, i_iinc, i_bin, i_dv, i_un, i_lbin, i_lsh, i_i2l, i_l2i, i_lcmp, i_dup, i_dup2, i_pop, i_if, i_icmp, i_goto, swG, i_sw, i_getf, i_puti, i_putz, i_putr, i_ald, i_lald, i_aald, i_ast, i_last, i_aast, i_alen, i_new, i_newi, i_newl, i_newq, i_oinit, i_ret, i_zret, i_lret, i_vret, catS, tk, rpush, isO, i_m1, i_m2, i_acopy, i_callV, i_callS, KRet, lget, lput, lputL, lcl0, isL, lv0, List.map_cons, List.map_nil, List.length_cons, List.length_nil, List.cons_append, List.nil_append, Nat.reduceAdd, Nat.reduceSub, Nat.reduceLeDiff, List.replicate_succ, List.replicate_zero, List.getElem?_cons_succ, List.getElem?_cons_zero, List.set_cons_succ, List.set_cons_zero, true_and, and_true, if_true, if_false, ↓reduceIte, Nat.le_refl, Value.category, va_up_app, eq_self, stp, Nat.reduceBEq, Bool.or_false, Bool.false_or, Bool.true_or, Bool.or_true, or_true, true_or, bx_uu, implies_true, true_implies, not_true, not_false_eq_true, false_implies, and_self, Nat.reduceLT, Int32.reduceAdd, Int32.reduceSub, Int32.reduceMul, Int32.reduceLE, Int32.reduceLT, Int32.reduceToNatClampNeg, va_rf_some, Bool.false_eq_true, k_L_low_0 ca, k_L_low_1 ca, k_L_low_3 ca, k_L_low_4 ca, k_L_low_5 ca, k_L_low_6 ca, hm]
    try clear hF hF0 F
    exact hs
  · exact hs.elim
/-! lot -/
def k_L_lot (ca : Nat → ClassId) (b L : Nat) (xs : Nat → Int32) : Nat → IT := fun pc => lk pc [(0, i_iload 1 1),
  (1, i_aload 0 2),
  (2, i_slen b L 3),
  (3, i_icmp (fun x y => y ≤ x) 12 6),
  (6, i_aload 0 7),
  (7, i_iload 1 8),
  (8, i_sld b L xs 9),
  (9, i_goto 24),
  (12, i_push (.int (-976231063)) 14),
  (14, i_iload 1 15),
  (15, i_push (.int 2909) 18),
  (18, i_bin (fun x y => x + y) 19),
  (19, i_bin (fun x y => x * y) 20),
  (20, i_push (.int 2699) 23),
  (23, i_bin (fun x y => x + y) 24),
  (24, i_ret)]
set_option maxHeartbeats 4000000 in
set_option maxRecDepth 20000 in
theorem t_L_lot {D : va_G} {ca : Nat → ClassId} {A : Nat → Prop} {p : Program} {l : Launch} {e : Env} {s : State} {m : MethodId} {args : Array Value} {below : List Frame} {meth : Method} {c : Code} {b L : Nat} {xs : Nat → Int32} {post : Option Value → PH → Prop} (X : Ax D ca A 2 yL_lot.cls yL_lot.name cL_lot (some .int) p s m args meth c) (hX : va_X b L xs s s.heap) (hbl : b < s.heap.size) (hbA : ¬ A b) : ∀ pc, Snd D A 2 p l e (rmD 0 0 0) s m args below meth c (MQ below (QM D A post) args s 0 0 A) (KRet 0 0 post) (k_L_lot ca b L xs pc) pc := by
  unfold k_L_lot
  refine snd_cons (snd_iload_n X dL_lot_0 rfl) ?_
  refine snd_cons (snd_aload_n X dL_lot_1 rfl) ?_
  refine snd_cons (snd_slen X hX hbl hbA dL_lot_2) ?_
  refine snd_cons (snd_icmp_ge X dL_lot_3 (by decide)) ?_
  refine snd_cons (snd_aload_n X dL_lot_6 rfl) ?_
  refine snd_cons (snd_iload_n X dL_lot_7 rfl) ?_
  refine snd_cons (snd_sld X hX hbl hbA dL_lot_8) ?_
  refine snd_cons (snd_goto X dL_lot_9 (by decide)) ?_
  refine snd_cons (snd_ldc X w_313 dL_lot_12) ?_
  refine snd_cons (snd_iload_n X dL_lot_14 rfl) ?_
  refine snd_cons (snd_sipush X dL_lot_15 (by decide)) ?_
  refine snd_cons (snd_iadd X dL_lot_18) ?_
  refine snd_cons (snd_imul X dL_lot_19) ?_
  refine snd_cons (snd_sipush X dL_lot_20 (by decide)) ?_
  refine snd_cons (snd_iadd X dL_lot_23) ?_
  refine snd_cons (snd_ret X dL_lot_24) ?_
  exact snd_nil
theorem k_L_lot_0 (ca : Nat → ClassId) (b L : Nat) (xs : Nat → Int32) : k_L_lot ca b L xs 0 = i_iload 1 1 := rfl
theorem k_L_lot_1 (ca : Nat → ClassId) (b L : Nat) (xs : Nat → Int32) : k_L_lot ca b L xs 1 = i_aload 0 2 := rfl
theorem k_L_lot_2 (ca : Nat → ClassId) (b L : Nat) (xs : Nat → Int32) : k_L_lot ca b L xs 2 = i_slen b L 3 := rfl
theorem k_L_lot_3 (ca : Nat → ClassId) (b L : Nat) (xs : Nat → Int32) : k_L_lot ca b L xs 3 = i_icmp (fun x y => y ≤ x) 12 6 := rfl
theorem k_L_lot_6 (ca : Nat → ClassId) (b L : Nat) (xs : Nat → Int32) : k_L_lot ca b L xs 6 = i_aload 0 7 := rfl
theorem k_L_lot_7 (ca : Nat → ClassId) (b L : Nat) (xs : Nat → Int32) : k_L_lot ca b L xs 7 = i_iload 1 8 := rfl
theorem k_L_lot_8 (ca : Nat → ClassId) (b L : Nat) (xs : Nat → Int32) : k_L_lot ca b L xs 8 = i_sld b L xs 9 := rfl
theorem k_L_lot_9 (ca : Nat → ClassId) (b L : Nat) (xs : Nat → Int32) : k_L_lot ca b L xs 9 = i_goto 24 := rfl
theorem k_L_lot_12 (ca : Nat → ClassId) (b L : Nat) (xs : Nat → Int32) : k_L_lot ca b L xs 12 = i_push (.int (-976231063)) 14 := rfl
theorem k_L_lot_14 (ca : Nat → ClassId) (b L : Nat) (xs : Nat → Int32) : k_L_lot ca b L xs 14 = i_iload 1 15 := rfl
theorem k_L_lot_15 (ca : Nat → ClassId) (b L : Nat) (xs : Nat → Int32) : k_L_lot ca b L xs 15 = i_push (.int 2909) 18 := rfl
theorem k_L_lot_18 (ca : Nat → ClassId) (b L : Nat) (xs : Nat → Int32) : k_L_lot ca b L xs 18 = i_bin (fun x y => x + y) 19 := rfl
theorem k_L_lot_19 (ca : Nat → ClassId) (b L : Nat) (xs : Nat → Int32) : k_L_lot ca b L xs 19 = i_bin (fun x y => x * y) 20 := rfl
theorem k_L_lot_20 (ca : Nat → ClassId) (b L : Nat) (xs : Nat → Int32) : k_L_lot ca b L xs 20 = i_push (.int 2699) 23 := rfl
theorem k_L_lot_23 (ca : Nat → ClassId) (b L : Nat) (xs : Nat → Int32) : k_L_lot ca b L xs 23 = i_bin (fun x y => x + y) 24 := rfl
theorem k_L_lot_24 (ca : Nat → ClassId) (b L : Nat) (xs : Nat → Int32) : k_L_lot ca b L xs 24 = i_ret := rfl
def OkLot (l : Launch) (D : va_G) (ca : Nat → ClassId) (b n : Nat) (xs : Nat → Int32) (k : Int32) (h : PH) (post : Option Value → PH → Prop) : Prop :=
  ∀ (L : List Nat) (sz : Nat), Dm L h → Met l yL_lot (wl yL_lot cL_lot 2 (some .int)) (rmD 0 0 0) (va_Pc [.ref b, .int k] (fun U => U.heap.size = sz ∧ va_P D vwCl (va_pl L (hd h)) U.heap ∧ va_K D vwCl (tysOf ca) U ∧ NWs U ∧ va_D (fun _ => True) (va_pl L (hd h)) ∧ va_X b n xs U U.heap ∧ b < sz ∧ ¬ va_A (va_pl L (hd h)) sz b)) (QM D (va_A (va_pl L (hd h)) sz) post) 0 0 (va_A (va_pl L (hd h)) sz)
set_option maxHeartbeats 4000000 in
set_option maxRecDepth 20000 in
theorem ok_lot (l : Launch) (D : va_G) (ca : Nat → ClassId) (b n : Nat) (xs : Nat → Int32) (hn : n < 2 ^ 31) (k : Int32) (h : PH) (post : Option Value → PH → Prop) (hk : ¬ k < 0) (hp : ∀ v, post (some (.int v)) h) : OkLot l D ca b n xs k h post := by
  intro L sz hm
  refine mofW (cc := cL_lot) (maxL := 2) (ret := some .int) (by decide +kernel) rfl ?_
  intro p e s m args below meth c s₁ B hml hv
  obtain ⟨rfl, hsz, hP, hK, hN, hD0, hX, hbl, hbA⟩ := hv
  subst hsz
  have hts := atoms_spec (ws := wl yL_lot cL_lot 2 (some .int)) B.pre
  have X : Ax D ca (va_A (va_pl L (hd h)) s.heap.size) 2 yL_lot.cls yL_lot.name cL_lot (some .int) p s m ([.ref b, .int k] : List Value).toArray meth c := ⟨B.exec, B.bytes, hml, findClass_of_methodNamed B.named, B.returns, B.notSynchronized, (name_of_methodNamed B.named B.method).1, fun w hw => hts w (List.mem_cons_of_mem _ hw), hK, hN, fun q hq => Or.inr hq⟩
  have hT := t_L_lot (l := l) (e := e) (below := below) (post := post) X hX hbl hbA
  have hc : ∀ v ∈ ([.ref b, .int k] : List Value), v.category = 1 := c1_ref (c1_int c1_nil)
  have key : Wq D (va_A (va_pl L (hd h)) s.heap.size) 2 p l e (rmD 0 0 0) s m ([.ref b, .int k] : List Value).toArray below meth c (MQ below (QM D (va_A (va_pl L (hd h)) s.heap.size) post) ([.ref b, .int k] : List Value).toArray s 0 0 (va_A (va_pl L (hd h)) s.heap.size)) 0 0 0 (lv0 [.ref b, .int k] 2) [] h := by
    have go : ∀ stops n' c1 sl pc lv st h', k_L_lot ca b n xs pc (wpS (k_L_lot ca b n xs) stops (Wq D (va_A (va_pl L (hd h)) s.heap.size) 2 p l e (rmD 0 0 0) s m ([.ref b, .int k] : List Value).toArray below meth c (MQ below (QM D (va_A (va_pl L (hd h)) s.heap.size) post) ([.ref b, .int k] : List Value).toArray s 0 0 (va_A (va_pl L (hd h)) s.heap.size))) (KRet 0 0 post) n') (KRet 0 0 post) c1 sl pc lv st h' → Wq D (va_A (va_pl L (hd h)) s.heap.size) 2 p l e (rmD 0 0 0) s m ([.ref b, .int k] : List Value).toArray below meth c (MQ below (QM D (va_A (va_pl L (hd h)) s.heap.size) post) ([.ref b, .int k] : List Value).toArray s 0 0 (va_A (va_pl L (hd h)) s.heap.size)) c1 sl pc lv st h' := fun stops n' c1 sl pc lv st h' k' => hT pc _ (fun c1 sl pc lv st h => wpS_snd hT stops n' c1 sl pc lv st h) c1 sl lv st h' k'
    by_cases q : nI n ≤ k
    · refine goN go (stp []) 40 _ _ _ _ _ _ (fun F hF hF0 => ?_)
      simp only [hF, hF0, ite_not, i_push, i_iload, i_lload, i_aload, i_istore, i_astore, i_lstore, i_iinc, i_bin, i_dv, i_un, i_lbin, i_lsh, i_i2l, i_l2i, i_lcmp, i_dup, i_dup2, i_pop, i_if, i_icmp, i_goto, swG, i_sw, i_getf, i_puti, i_putz, i_putr, i_ald, i_lald, i_aald, i_ast, i_last, i_aast, i_alen, i_new, i_newi, i_newl, i_newq, i_oinit, i_ret, i_zret, i_lret, i_vret, catS, tk, rpush, isO, i_m1, i_m2, i_acopy, i_callV, i_callS, KRet, lget, lput, lputL, lcl0, isL, lv0, List.map_cons, List.map_nil, List.length_cons, List.length_nil, List.cons_append, List.nil_append, Nat.reduceAdd, Nat.reduceSub, Nat.reduceLeDiff, List.replicate_succ, List.replicate_zero, List.getElem?_cons_succ, List.getElem?_cons_zero, List.set_cons_succ, List.set_cons_zero, true_and, and_true, if_true, if_false, ↓reduceIte, Nat.le_refl, Value.category, va_up_app, eq_self, stp, Nat.reduceBEq, Bool.or_false, Bool.false_or, Bool.true_or, Bool.or_true, or_true, true_or, bx_uu, implies_true, true_implies, not_true, not_false_eq_true, false_implies, and_self, Nat.reduceLT, Int32.reduceAdd, Int32.reduceSub, Int32.reduceMul, Int32.reduceLE, Int32.reduceLT, Int32.reduceToNatClampNeg, va_rf_some, Bool.false_eq_true, k_L_lot_0 ca b n xs, k_L_lot_1 ca b n xs, k_L_lot_2 ca b n xs, k_L_lot_3 ca b n xs, k_L_lot_6 ca b n xs, k_L_lot_7 ca b n xs, k_L_lot_8 ca b n xs, k_L_lot_9 ca b n xs, k_L_lot_12 ca b n xs, k_L_lot_14 ca b n xs, k_L_lot_15 ca b n xs, k_L_lot_18 ca b n xs, k_L_lot_19 ca b n xs, k_L_lot_20 ca b n xs, k_L_lot_23 ca b n xs, k_L_lot_24 ca b n xs, i_sld, i_slen, q]
      exact hp _
    · have hin : vp_in k n := by
        refine fun z => z.elim hk (fun z => q ?_)
        rw [Int32.le_iff_toInt_le, nI_toInt hn]
        have e1 : k.toNatClampNeg = k.toInt.toNat := rfl
        rw [Int32.lt_iff_toInt_lt] at hk
        have e0 : (0 : Int32).toInt = 0 := rfl
        omega
      refine goN go (stp []) 40 _ _ _ _ _ _ (fun F hF hF0 => ?_)
      simp only [hF, hF0, ite_not, i_push, i_iload, i_lload, i_aload, i_istore, i_astore, i_lstore, i_iinc, i_bin, i_dv, i_un, i_lbin, i_lsh, i_i2l, i_l2i, i_lcmp, i_dup, i_dup2, i_pop, i_if, i_icmp, i_goto, swG, i_sw, i_getf, i_puti, i_putz, i_putr, i_ald, i_lald, i_aald, i_ast, i_last, i_aast, i_alen, i_new, i_newi, i_newl, i_newq, i_oinit, i_ret, i_zret, i_lret, i_vret, catS, tk, rpush, isO, i_m1, i_m2, i_acopy, i_callV, i_callS, KRet, lget, lput, lputL, lcl0, isL, lv0, List.map_cons, List.map_nil, List.length_cons, List.length_nil, List.cons_append, List.nil_append, Nat.reduceAdd, Nat.reduceSub, Nat.reduceLeDiff, List.replicate_succ, List.replicate_zero, List.getElem?_cons_succ, List.getElem?_cons_zero, List.set_cons_succ, List.set_cons_zero, true_and, and_true, if_true, if_false, ↓reduceIte, Nat.le_refl, Value.category, va_up_app, eq_self, stp, Nat.reduceBEq, Bool.or_false, Bool.false_or, Bool.true_or, Bool.or_true, or_true, true_or, bx_uu, implies_true, true_implies, not_true, not_false_eq_true, false_implies, and_self, Nat.reduceLT, Int32.reduceAdd, Int32.reduceSub, Int32.reduceMul, Int32.reduceLE, Int32.reduceLT, Int32.reduceToNatClampNeg, va_rf_some, Bool.false_eq_true, k_L_lot_0 ca b n xs, k_L_lot_1 ca b n xs, k_L_lot_2 ca b n xs, k_L_lot_3 ca b n xs, k_L_lot_6 ca b n xs, k_L_lot_7 ca b n xs, k_L_lot_8 ca b n xs, k_L_lot_9 ca b n xs, k_L_lot_12 ca b n xs, k_L_lot_14 ca b n xs, k_L_lot_15 ca b n xs, k_L_lot_18 ca b n xs, k_L_lot_19 ca b n xs, k_L_lot_20 ca b n xs, k_L_lot_23 ca b n xs, k_L_lot_24 ca b n xs, i_sld, i_slen, q, hin]
      exact hp _
  rw [lg_entry_eq]
  have hle : (lg_sl ([.ref b, .int k] : List Value)).length ≤ 2 := by rw [lg_sl1 hc]; exact Nat.le_refl _
  refine key s.heap [] L _ hm hP hD0.self va_S.rf ?_
  refine LH.of (lv_entry ([.ref b, .int k] : List Value) hle) fun i v hg => ?_
  have := lv0_args (fun i => lg_none) hc 0 i v hg
  rw [Nat.zero_add] at this
  exact this
def i_lot (b L : Nat) (xs : Nat → Int32) (MC MS npc : Nat) : IT := fun K _ c sl _ lv st h => match st with
  | .int k :: .ref a :: st' => a = b ∧ ¬ k < 0 ∧ catS st' ≤ 8 ∧ c ≤ MC ∧ sl ≤ MS ∧ ∀ v, K c sl npc lv (.int v :: st') h
  | _ => False
section
variable {D : va_G} {ca : Nat → ClassId} {A : Nat → Prop} {nL : Nat} {p : Program} {l : Launch} {e : Env} {R : Room} {s : State} {m : MethodId} {args : Array Value} {below : List Frame} {meth : Method} {c : Code} {Q : State → Prop} {own nm : String} {cc : ByteArray} {ret : Option FieldType} {KR : RT} {pc : Nat}
theorem pcl_blind {av : List Value} {h : PH} {L : List Nat} {sz b n : Nat} {xs : Nat → Int32} : FrameBlind (va_Pc av (fun U => U.heap.size = sz ∧ va_P D vwCl (va_pl L (hd h)) U.heap ∧ va_K D vwCl (tysOf ca) U ∧ NWs U ∧ va_D (fun _ => True) (va_pl L (hd h)) ∧ va_X b n xs U U.heap ∧ b < sz ∧ ¬ va_A (va_pl L (hd h)) sz b)) := by
  intro a U g mk q
  obtain ⟨q0, q1, qP, qK, qN, qD, qX, qb, qA⟩ := q
  exact ⟨q0, q1, qP, va_K.moved (u := U) (U := U.calling g mk a) (Vm.Alike.refl U.vm) qK, qN.same rfl, qD, va_X.moved (u := U) (U := U.calling g mk a) (Vm.Alike.refl U.vm) qX, qb, qA⟩
theorem snd_lot (X : Ax D ca A nL own nm cc ret p s m args meth c) {b L MC MS index : Nat} {xs : Nat → Int32} (hX : va_X b L xs s s.heap) (hbl : b < s.heap.size) (hbA : ¬ A b) (hL : L < 2 ^ 31) (hMC : R.cells = MC) (hMS : R.slots = MS)
    (w1 : Cond.methodLink own index yL_lot ∈ lwg) (w2 : Cond.static yL_lot ∈ lwg) (w3 : Cond.initialized own ∈ lwg) (w5 : Cond.code yL_lot cL_lot 2 (some .int) ∈ lwg) (hdo : yL_lot.cls = own ∧ yL_lot.cls ≠ "java/lang/invoke/MethodHandle" ∧ yL_lot.cls ≠ "java/lang/invoke/VarHandle" ∧ (parseMethodDescriptor yL_lot.desc).map (fun d => d.parameters.length) = some 2) (hR : 0 + 1 ≤ R.frames ∧ 8 + (2 + 11) + 37 * 0 ≤ R.locals) (hdg : decode cc pc = .ok (.invokestatic index, 3)) : Snd D A nL p l e R s m args below meth c Q KR (i_lot b L xs MC MS (pc + 3)) pc := by
  intro K hK c1 sl lv st h hj H locs L' ls a1 a2 a3 a4 a5
  subst hMC; subst hMS
  unfold i_lot at hj
  split at hj
  · rename_i k a st'
    obtain ⟨rfl, hk, hcat, g1, g2, hj⟩ := hj
    have hG : GoodIn lwg (wsS own index yL_lot (wl yL_lot cL_lot 2 (some .int))) := by
      intro w hw
      unfold wsS at hw
      simp only [List.cons_append, List.nil_append, List.mem_cons] at hw
      rcases hw with rfl | rfl | rfl | hw
      · exact gin1 w1
      · exact gin1 w2
      · exact gin1 w3
      · exact gin_wl w5 _ hw
    have hfA := free_in X.2.2.2.2.2.2.2.2.2.2 a3 a4
    have hXH : va_X a L xs s H := hX.kept (a4.2.1 a hbl hbA)
    refine va_callM (va_runS (As := [.ref a, .int k]) (rest := st') ⟨X.1, X.2.1, X.2.2.1, X.2.2.2.1, X.2.2.2.2.2.2.2.1⟩ (ok_lot l D ca a L xs hL k h (fun v h' => h' = h ∧ ∃ x, v = some (.int x)) hk (fun v => ⟨rfl, v, rfl⟩) L' H.size a1) (cwS 2 X.2.2.2.2.2.2.2.1 hG rfl rfl rfl hdo hR) ⟨pcl_blind, fun U hU hW => ?_⟩ rfl rfl a5.1 rfl (lv_room (by rw [catS_eq]; exact hcat)) hdg ⟨g1, g2⟩) a4 hfA (fun v h' L2 H1 locs1 r1 r2 r3 r4 r5 => ?_)
    · have z := pc_now X (av := [.ref a, .int k]) a2 a3 U hU hW
      exact ⟨z.1, z.2.1, z.2.2.1, z.2.2.2.1, z.2.2.2.2.1, z.2.2.2.2.2, by rw [hU]; exact va_X.moved hW.alike hXH, Nat.lt_of_lt_of_le hbl a4.1, fun z => hbA (hfA _ z)⟩
    · obtain ⟨rfl, x, rfl⟩ := r1
      exact hK _ _ _ _ _ _ (hj x) H1 locs1 L2 ls r2 r3 r4 r5 a5
  · exact hj.elim
end
