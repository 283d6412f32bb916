/-! semantic instructions, and that the machine's own do what they say -/
def i_push (v : Value) (npc : Nat) : IT := fun K _ c sl _ lv st h => K c sl npc lv (v :: st) h
def i_iload (k npc : Nat) : IT := fun K _ c sl _ lv st h => match lget lv k with
  | some (.int x) => K c sl npc lv (.int x :: st) h
  | _ => False
def i_lload (k npc : Nat) : IT := fun K _ c sl _ lv st h => match lget lv k with
  | some (.long x) => K c sl npc lv (.long x :: st) h
  | _ => False
def i_aload (k npc : Nat) : IT := fun K _ c sl _ lv st h => match lget lv k with
  | some (.ref x) => K c sl npc lv (.ref x :: st) h
  | _ => False
def i_istore (k npc : Nat) : IT := fun K _ c sl _ lv st h => match st with
  | .int x :: st' => K c sl npc (lput lv k (.int x)) st' h
  | _ => False
def i_astore (k npc : Nat) : IT := fun K _ c sl _ lv st h => match st with
  | .ref x :: st' => K c sl npc (lput lv k (.ref x)) st' h
  | _ => False
def i_lstore (k npc : Nat) : IT := fun K _ c sl _ lv st h => match st with
  | .long x :: st' => K c sl npc (lputL lv k (.long x)) st' h
  | _ => False
def i_iinc (k : Nat) (d : Int32) (npc : Nat) : IT := fun K _ c sl _ lv st h => match lget lv k with
  | some (.int x) => K c sl npc (lput lv k (.int (x + d))) st h
  | _ => False
def i_bin (f : Int32 → Int32 → Int32) (npc : Nat) : IT := fun K _ c sl _ lv st h => match st with
  | .int y :: .int x :: st' => K c sl npc lv (.int (f x y) :: st') h
  | _ => False
def i_dv (f : Int32 → Int32 → Int32) (npc : Nat) : IT := fun K _ c sl _ lv st h => match st with
  | .int y :: .int x :: st' => ¬ y = 0 ∧ K c sl npc lv (.int (f x y) :: st') h
  | _ => False
def i_un (f : Int32 → Int32) (npc : Nat) : IT := fun K _ c sl _ lv st h => match st with
  | .int x :: st' => K c sl npc lv (.int (f x) :: st') h
  | _ => False
def i_lbin (f : Int64 → Int64 → Int64) (npc : Nat) : IT := fun K _ c sl _ lv st h => match st with
  | .long y :: .long x :: st' => K c sl npc lv (.long (f x y) :: st') h
  | _ => False
def i_lsh (f : Int64 → Int32 → Int64) (npc : Nat) : IT := fun K _ c sl _ lv st h => match st with
  | .int y :: .long x :: st' => K c sl npc lv (.long (f x y) :: st') h
  | _ => False
def i_i2l (npc : Nat) : IT := fun K _ c sl _ lv st h => match st with
  | .int x :: st' => K c sl npc lv (.long x.toInt64 :: st') h
  | _ => False
def i_l2i (npc : Nat) : IT := fun K _ c sl _ lv st h => match st with
  | .long x :: st' => K c sl npc lv (.int x.toInt32 :: st') h
  | _ => False
def i_lcmp (npc : Nat) : IT := fun K _ c sl _ lv st h => match st with
  | .long y :: .long x :: st' => K c sl npc lv (.int (lg_cmp x y) :: st') h
  | _ => False
def i_dup (npc : Nat) : IT := fun K _ c sl _ lv st h => match st with
  | .int x :: st' => K c sl npc lv (.int x :: .int x :: st') h
  | .ref x :: st' => K c sl npc lv (.ref x :: .ref x :: st') h
  | _ => False
def i_dup2 (npc : Nat) : IT := fun K _ c sl _ lv st h => match st with
  | .int x :: .ref y :: st' => K c sl npc lv (.int x :: .ref y :: .int x :: .ref y :: st') h
  | _ => False
def i_pop (npc : Nat) : IT := fun K _ c sl _ lv st h => match st with
  | .int _ :: st' => K c sl npc lv st' h
  | _ => False
def i_if (P : Int32 → Prop) (tgt npc : Nat) : IT := fun K _ c sl _ lv st h => match st with
  | .int x :: st' => @ite Prop (P x) (Classical.propDecidable _) (K c sl tgt lv st' h) (K c sl npc lv st' h)
  | _ => False
def i_icmp (P : Int32 → Int32 → Prop) (tgt npc : Nat) : IT := fun K _ c sl _ lv st h => match st with
  | .int y :: .int x :: st' => @ite Prop (P x y) (Classical.propDecidable _) (K c sl tgt lv st' h) (K c sl npc lv st' h)
  | _ => False
def i_goto (tgt : Nat) : IT := fun K _ c sl _ lv st h => K c sl tgt lv st h
def swG (K : Nat → Prop) (d : Nat) : List (Int32 × Nat) → Int32 → Prop
  | [], _ => K d
  | (v, t) :: r, x => if x = v then K t else swG K d r x
def i_sw (ps : List (Int32 × Nat)) (d : Nat) : IT := fun K _ c sl _ lv st h => match st with
  | .int x :: st' => swG (fun t => K c sl t lv st' h) d ps x
  | _ => False
def i_getf (ci k npc : Nat) : IT := fun K _ c sl _ lv st h => match st with
  | .ref a :: st' => (match h a with
    | some (.inr (c', fs)) => c' = ci ∧ (match fs[k]? with
      | some v => K c sl npc lv (v :: st') h
      | none => False)
    | _ => False)
  | _ => False
def i_puti (ci k npc : Nat) : IT := fun K _ c sl _ lv st h => match st with
  | .int x :: .ref a :: st' => (match h a with
    | some (.inr (c', fs)) => c' = ci ∧ k < fs.length ∧ K c sl npc lv st' (va_up h a (some (.inr (c', fs.set k (.int x)))))
    | _ => False)
  | _ => False
def i_putz (ci k npc : Nat) : IT := fun K _ c sl _ lv st h => match st with
  | .int x :: .ref a :: st' => (match h a with
    | some (.inr (c', fs)) => c' = ci ∧ k < fs.length ∧ (x = 0 ∨ x = 1) ∧ K c sl npc lv st' (va_up h a (some (.inr (c', fs.set k (.int x)))))
    | _ => False)
  | _ => False
def i_putr (ci k npc : Nat) : IT := fun K _ c sl _ lv st h => match st with
  | .ref x :: .ref a :: st' => (match h a with
    | some (.inr (c', fs)) => c' = ci ∧ k < fs.length ∧ K c sl npc lv st' (va_up h a (some (.inr (c', fs.set k (.ref x)))))
    | _ => False)
  | _ => False
def i_ald (cA : ClassId) (npc : Nat) : IT := fun K _ c sl _ lv st h => match st with
  | .int i :: .ref a :: st' => (match h a with
    | some (.inl (c', n, .inl f)) => c' = cA ∧ vp_in i n ∧ K c sl npc lv (.int (f i.toNatClampNeg) :: st') h
    | _ => False)
  | _ => False
def i_lald (cA : ClassId) (npc : Nat) : IT := fun K _ c sl _ lv st h => match st with
  | .int i :: .ref a :: st' => (match h a with
    | some (.inl (c', n, .inr (.inl f))) => c' = cA ∧ vp_in i n ∧ K c sl npc lv (.long (f i.toNatClampNeg) :: st') h
    | _ => False)
  | _ => False
def i_aald (cA : ClassId) (npc : Nat) : IT := fun K _ c sl _ lv st h => match st with
  | .int i :: .ref a :: st' => (match h a with
    | some (.inl (c', n, .inr (.inr (.inr (.inr f))))) => c' = cA ∧ vp_in i n ∧ K c sl npc lv (va_rf (f i.toNatClampNeg) :: st') h
    | _ => False)
  | _ => False
def i_ast (nar : Int32 → Int32) (cA : ClassId) (npc : Nat) : IT := fun K _ c sl _ lv st h => match st with
  | .int x :: .int i :: .ref a :: st' => (match h a with
    | some (.inl (c', n, .inl f)) => c' = cA ∧ vp_in i n ∧ K c sl npc lv st' (va_up h a (some (.inl (c', n, .inl (upd f i.toNatClampNeg (nar x))))))
    | _ => False)
  | _ => False
def i_last (cA : ClassId) (npc : Nat) : IT := fun K _ c sl _ lv st h => match st with
  | .long x :: .int i :: .ref a :: st' => (match h a with
    | some (.inl (c', n, .inr (.inl f))) => c' = cA ∧ vp_in i n ∧ K c sl npc lv st' (va_up h a (some (.inl (c', n, .inr (.inl (vp_updL f i.toNatClampNeg x))))))
    | _ => False)
  | _ => False
def i_aast (ci : Nat) (cA : ClassId) (npc : Nat) : IT := fun K _ c sl _ lv st h => match st with
  | .ref x :: .int i :: .ref a :: st' => (match h x with
    | some (.inr (c0, _)) => c0 = ci ∧ (match h a with
      | some (.inl (c', n, .inr (.inr (.inr (.inr f))))) => c' = cA ∧ vp_in i n ∧ K c sl npc lv st' (va_up h a (some (.inl (c', n, .inr (.inr (.inr (.inr (va_up f i.toNatClampNeg (some x)))))))))
      | _ => False)
    | _ => False)
  | _ => False
def i_alen (cA : ClassId) (npc : Nat) : IT := fun K _ c sl _ lv st h => match st with
  | .ref a :: st' => (match h a with
    | some (.inl (c', n, .inl _)) => c' = cA ∧ K c sl npc lv (.int (Int32.ofNat n) :: st') h
    | _ => False)
  | _ => False
def i_new (MC MS ci n : Nat) (fs : List Value) (npc : Nat) : IT := fun K _ c sl _ lv st h => c + 1 ≤ MC ∧ sl + n ≤ MS ∧ ∀ q : Nat, h q = none → K (c + 1) (sl + n) npc lv (.ref q :: st) (va_up h q (some (.inr (ci, fs))))
def i_newi (MC MS : Nat) (cA : ClassId) (N npc : Nat) : IT := fun K _ c sl _ lv st h => match st with
  | .int x :: st' => ¬ x < 0 ∧ x.toNatClampNeg = N ∧ c + 1 ≤ MC ∧ sl + N ≤ MS ∧ ∀ q : Nat, h q = none → K (c + 1) (sl + N) npc lv (.ref q :: st') (va_up h q (some (.inl (cA, N, .inl (fun _ => 0)))))
  | _ => False
def i_newl (MC MS : Nat) (cA : ClassId) (N npc : Nat) : IT := fun K _ c sl _ lv st h => match st with
  | .int x :: st' => ¬ x < 0 ∧ x.toNatClampNeg = N ∧ c + 1 ≤ MC ∧ sl + N ≤ MS ∧ ∀ q : Nat, h q = none → K (c + 1) (sl + N) npc lv (.ref q :: st') (va_up h q (some (.inl (cA, N, .inr (.inl (fun _ => 0))))))
  | _ => False
def i_newq (MC MS : Nat) (cA : ClassId) (N npc : Nat) : IT := fun K _ c sl _ lv st h => match st with
  | .int x :: st' => ¬ x < 0 ∧ x.toNatClampNeg = N ∧ c + 1 ≤ MC ∧ sl + N ≤ MS ∧ ∀ q : Nat, h q = none → K (c + 1) (sl + N) npc lv (.ref q :: st') (va_up h q (some (.inl (cA, N, .inr (.inr (.inr (.inr (fun _ => none))))))))
  | _ => False
def catS : List Value → Nat
  | [] => 0
  | v :: l => v.category + catS l
theorem catS_eq (l : List Value) : (l.map fun v => v.category).sum = catS l := by
  induction l with
  | nil => rfl
  | cons v l ih => simp [catS, ih]
def i_oinit (npc : Nat) : IT := fun K _ c sl _ lv st h => match st with
  | .ref _ :: st' => catS st' ≤ 8 ∧ K c sl npc lv st' h
  | _ => False
def i_ret : IT := fun _ R c sl _ _ st h => match st with
  | [.int v] => R c sl (some (.int v)) h
  | _ => False
def i_zret : IT := fun _ R c sl _ _ st h => match st with
  | [.int v] => (v = 0 ∨ v = 1) ∧ R c sl (some (.int v)) h
  | _ => False
def i_lret : IT := fun _ R c sl _ _ st h => match st with
  | [.long v] => R c sl (some (.long v)) h
  | _ => False
def i_vret : IT := fun _ R c sl _ _ st h => match st with
  | [] => R c sl none h
  | _ => False
/-! calls -/
def tk : Nat → List Value → List Value → Option (List Value × List Value)
  | 0, acc, st => some (acc, st)
  | n + 1, acc, v :: st => tk n (v :: acc) st
  | _ + 1, _, [] => none
theorem tk_spec : ∀ {n : Nat} {acc st av st' : List Value}, tk n acc st = some (av, st') → ∃ l, av = l ++ acc ∧ l.length = n ∧ st = l.reverse ++ st'
  | 0, acc, st, av, st', h => by
    simp only [tk, Option.some.injEq, Prod.mk.injEq] at h
    exact ⟨[], by simp [h.1], rfl, by simp [h.2]⟩
  | n + 1, acc, v :: st, av, st', h => by
    simp only [tk] at h
    obtain ⟨l, h1, h2, h3⟩ := tk_spec h
    exact ⟨l ++ [v], by rw [h1]; simp, by simp [h2], by rw [h3]; simp⟩
  | n + 1, acc, [], av, st', h => by simp [tk] at h
def rpush : Option Value → List Value → List Value
  | some v, st => v :: st
  | none, st => st
theorem rpush_eq (v : Option Value) (st : List Value) : v.toList ++ st = rpush v st := by cases v <;> rfl
def i_m1 (f : Int32 → Int32) (MC MS npc : Nat) : IT := fun K _ c sl _ lv st h => match st with
  | .int x :: st' => catS st' ≤ 8 ∧ c ≤ MC ∧ sl ≤ MS ∧ K c sl npc lv (.int (f x) :: st') h
  | _ => False
def i_m2 (f : Int32 → Int32 → Int32) (MC MS npc : Nat) : IT := fun K _ c sl _ lv st h => match st with
  | .int y :: .int x :: st' => catS st' ≤ 8 ∧ c ≤ MC ∧ sl ≤ MS ∧ K c sl npc lv (.int (f x y) :: st') h
  | _ => False
def i_acopy (cA : ClassId) (npc : Nat) : IT := fun K _ c sl _ lv st h => match st with
  | .int n :: .int dp :: .ref a :: .int sp :: .ref a0 :: st' => (match h a0 with
    | some (.inl (c0, n0, .inl f)) => (match h a with
      | some (.inl (c1, n1, .inl g)) => catS st' ≤ 8 ∧ c0 = cA ∧ c1 = cA ∧ ¬ sp < 0 ∧ ¬ dp < 0 ∧ ¬ n < 0 ∧ sp.toNatClampNeg + n.toNatClampNeg ≤ n0 ∧ dp.toNatClampNeg + n.toNatClampNeg ≤ n1 ∧ K c sl npc lv st' (va_up h a (some (.inl (c1, n1, .inl (va_cpy f g sp.toNatClampNeg dp.toNatClampNeg n.toNatClampNeg)))))
      | _ => False)
    | _ => False)
  | _ => False
def isO (ci : Nat) (h : PH) : List Value → Prop
  | .ref b :: _ => (match h b with
    | some (.inr (c', _)) => c' = ci
    | _ => False)
  | _ => False
def i_callV (ci n mc ms MC MS : Nat) (sp : SPEC) (npc : Nat) : IT := fun K _ c sl _ lv st h => match tk (n + 1) [] st with
  | some (av, st') => isO ci h av ∧ catS st' ≤ 8 ∧ c + mc ≤ MC ∧ sl + ms ≤ MS ∧ sp av h (fun v h' => K (c + mc) (sl + ms) npc lv (rpush v st') h')
  | none => False
def i_callS (n mc ms MC MS : Nat) (sp : SPEC) (npc : Nat) : IT := fun K _ c sl _ lv st h => match tk n [] st with
  | some (av, st') => catS st' ≤ 8 ∧ c + mc ≤ MC ∧ sl + ms ≤ MS ∧ sp av h (fun v h' => K (c + mc) (sl + ms) npc lv (rpush v st') h')
  | none => False
section SND
variable {D : va_G} {ca : Nat → ClassId} {A : Nat → Prop} {nL : Nat} {p : Program} {l : Launch} {e : Env} {R : Room} {s : State} {m : MethodId} {args : Array Value} {below : List Frame} {meth : Method} {c : Code} {Q : State → Prop} {own nm : String} {cc : ByteArray} {ret : Option FieldType} {KR : RT} {pc : Nat}
theorem snd_iconst (X : Ax D ca A nL own nm cc ret p s m args meth c) {n : Int} {v : Int32} (hdg : decode cc pc = .ok (.iconst n, 1)) (hv : Int32.ofInt n = v) : Snd D A nL p l e R s m args below meth c Q KR (i_push (.int v) (pc + 1)) pc :=
  fun _ hK _ _ _ _ _ hi H locs L ls a1 a2 a3 a4 a5 => lv_iconst X.1 X.2.1 hdg hv (hK _ _ _ _ _ _ hi H locs L ls a1 a2 a3 a4 a5)
theorem snd_bipush (X : Ax D ca A nL own nm cc ret p s m args meth c) {n : Int} {v : Int32} (hdg : decode cc pc = .ok (.bipush n, 2)) (hv : (Int8.ofInt n).toInt32 = v) : Snd D A nL p l e R s m args below meth c Q KR (i_push (.int v) (pc + 2)) pc :=
  fun _ hK _ _ _ _ _ hi H locs L ls a1 a2 a3 a4 a5 => lv_bipush X.1 X.2.1 hdg hv (hK _ _ _ _ _ _ hi H locs L ls a1 a2 a3 a4 a5)
theorem snd_sipush (X : Ax D ca A nL own nm cc ret p s m args meth c) {n : Int} {v : Int32} (hdg : decode cc pc = .ok (.sipush n, 3)) (hv : (Int16.ofInt n).toInt32 = v) : Snd D A nL p l e R s m args below meth c Q KR (i_push (.int v) (pc + 3)) pc :=
  fun _ hK _ _ _ _ _ hi H locs L ls a1 a2 a3 a4 a5 => lv_sipush X.1 X.2.1 hdg hv (hK _ _ _ _ _ _ hi H locs L ls a1 a2 a3 a4 a5)
theorem snd_lconst (X : Ax D ca A nL own nm cc ret p s m args meth c) {n : Fin 2} {v : Int64} (hdg : decode cc pc = .ok (.lconst n, 1)) (hv : Int64.ofNat (n : Nat) = v) : Snd D A nL p l e R s m args below meth c Q KR (i_push (.long v) (pc + 1)) pc :=
  fun _ hK _ _ _ _ _ hi H locs L ls a1 a2 a3 a4 a5 => lv_lconst X.1 X.2.1 hdg hv (hK _ _ _ _ _ _ hi H locs L ls a1 a2 a3 a4 a5)
theorem snd_ldc (X : Ax D ca A nL own nm cc ret p s m args meth c) {index : Nat} {v : Int32} (hw : Cond.constant own index v ∈ lwg) (hdg : decode cc pc = .ok (.ldc index, 2)) : Snd D A nL p l e R s m args below meth c Q KR (i_push (.int v) (pc + 2)) pc :=
  fun _ hK _ _ _ _ _ hi H locs L ls a1 a2 a3 a4 a5 => lv_ldc X.1 X.2.1 X.2.2.2.1 (X.2.2.2.2.2.2.2.1 _ hw) hdg (hK _ _ _ _ _ _ hi H locs L ls a1 a2 a3 a4 a5)
theorem snd_ldc2 (X : Ax D ca A nL own nm cc ret p s m args meth c) {index : Nat} {v : Int64} (hw : Cond.constantLong own index v ∈ lwg) (hdg : decode cc pc = .ok (.ldc2_w index, 3)) : Snd D A nL p l e R s m args below meth c Q KR (i_push (.long v) (pc + 3)) pc :=
  fun _ hK _ _ _ _ _ hi H locs L ls a1 a2 a3 a4 a5 => lv_ldc2 X.1 X.2.1 X.2.2.2.1 (X.2.2.2.2.2.2.2.1 _ hw) hdg (hK _ _ _ _ _ _ hi H locs L ls a1 a2 a3 a4 a5)
theorem snd_iload_n (X : Ax D ca A nL own nm cc ret p s m args meth c) {k : Fin 4} {i : Nat} (hdg : decode cc pc = .ok (.iload_n k, 1)) (hi : (k : Nat) = i) : Snd D A nL p l e R s m args below meth c Q KR (i_iload i (pc + 1)) pc := by
  intro K hK c1 sl lv st h hj H locs L ls a1 a2 a3 a4 a5
  unfold i_iload at hj
  split at hj
  · rename_i x hx
    exact lv_iload_n X.1 X.2.1 hdg hi (a5.get hx) (hK _ _ _ _ _ _ hj H locs L ls a1 a2 a3 a4 a5)
  · exact hj.elim
theorem snd_iload (X : Ax D ca A nL own nm cc ret p s m args meth c) {i : Nat} (hdg : decode cc pc = .ok (.iload i, 2)) : Snd D A nL p l e R s m args below meth c Q KR (i_iload i (pc + 2)) pc := by
  intro K hK c1 sl lv st h hj H locs L ls a1 a2 a3 a4 a5
  unfold i_iload at hj
  split at hj
  · rename_i x hx
    exact lv_iload X.1 X.2.1 hdg (a5.get hx) (hK _ _ _ _ _ _ hj H locs L ls a1 a2 a3 a4 a5)
  · exact hj.elim
theorem snd_lload_n (X : Ax D ca A nL own nm cc ret p s m args meth c) {k : Fin 4} {i : Nat} (hdg : decode cc pc = .ok (.lload_n k, 1)) (hi : (k : Nat) = i) : Snd D A nL p l e R s m args below meth c Q KR (i_lload i (pc + 1)) pc := by
  intro K hK c1 sl lv st h hj H locs L ls a1 a2 a3 a4 a5
  unfold i_lload at hj
  split at hj
  · rename_i x hx
    exact lv_lload_n X.1 X.2.1 hdg hi (a5.get hx) (hK _ _ _ _ _ _ hj H locs L ls a1 a2 a3 a4 a5)
  · exact hj.elim
theorem snd_aload_n (X : Ax D ca A nL own nm cc ret p s m args meth c) {k : Fin 4} {i : Nat} (hdg : decode cc pc = .ok (.aload_n k, 1)) (hi : (k : Nat) = i) : Snd D A nL p l e R s m args below meth c Q KR (i_aload i (pc + 1)) pc := by
  intro K hK c1 sl lv st h hj H locs L ls a1 a2 a3 a4 a5
  unfold i_aload at hj
  split at hj
  · rename_i x hx
    exact lv_aload_n X.1 X.2.1 hdg hi (a5.get hx) (hK _ _ _ _ _ _ hj H locs L ls a1 a2 a3 a4 a5)
  · exact hj.elim
theorem snd_aload (X : Ax D ca A nL own nm cc ret p s m args meth c) {i : Nat} (hdg : decode cc pc = .ok (.aload i, 2)) : Snd D A nL p l e R s m args below meth c Q KR (i_aload i (pc + 2)) pc := by
  intro K hK c1 sl lv st h hj H locs L ls a1 a2 a3 a4 a5
  unfold i_aload at hj
  split at hj
  · rename_i x hx
    exact lv_aload X.1 X.2.1 hdg (a5.get hx) (hK _ _ _ _ _ _ hj H locs L ls a1 a2 a3 a4 a5)
  · exact hj.elim
theorem snd_istore_n (X : Ax D ca A nL own nm cc ret p s m args meth c) {k : Fin 4} {i : Nat} (hdg : decode cc pc = .ok (.istore_n k, 1)) (hi : (k : Nat) = i) (hn : i < nL) : Snd D A nL p l e R s m args below meth c Q KR (i_istore i (pc + 1)) pc := by
  intro K hK c1 sl lv st h hj H locs L ls a1 a2 a3 a4 a5
  unfold i_istore at hj
  split at hj
  · exact lv_istore_n X.1 X.2.1 hdg hi a5 hn rfl (fun ls' h' => hK _ _ _ _ _ _ hj H locs L ls' a1 a2 a3 a4 (LH.put h'))
  · exact hj.elim
theorem snd_istore (X : Ax D ca A nL own nm cc ret p s m args meth c) {i : Nat} (hdg : decode cc pc = .ok (.istore i, 2)) (hn : i < nL) : Snd D A nL p l e R s m args below meth c Q KR (i_istore i (pc + 2)) pc := by
  intro K hK c1 sl lv st h hj H locs L ls a1 a2 a3 a4 a5
  unfold i_istore at hj
  split at hj
  · exact lv_istore X.1 X.2.1 hdg a5 hn rfl (fun ls' h' => hK _ _ _ _ _ _ hj H locs L ls' a1 a2 a3 a4 (LH.put h'))
  · exact hj.elim
theorem snd_astore_n (X : Ax D ca A nL own nm cc ret p s m args meth c) {k : Fin 4} {i : Nat} (hdg : decode cc pc = .ok (.astore_n k, 1)) (hi : (k : Nat) = i) (hn : i < nL) : Snd D A nL p l e R s m args below meth c Q KR (i_astore i (pc + 1)) pc := by
  intro K hK c1 sl lv st h hj H locs L ls a1 a2 a3 a4 a5
  unfold i_astore at hj
  split at hj
  · exact lv_astore_n X.1 X.2.1 hdg hi a5 hn rfl (fun ls' h' => hK _ _ _ _ _ _ hj H locs L ls' a1 a2 a3 a4 (LH.put h'))
  · exact hj.elim
theorem snd_astore (X : Ax D ca A nL own nm cc ret p s m args meth c) {i : Nat} (hdg : decode cc pc = .ok (.astore i, 2)) (hn : i < nL) : Snd D A nL p l e R s m args below meth c Q KR (i_astore i (pc + 2)) pc := by
  intro K hK c1 sl lv st h hj H locs L ls a1 a2 a3 a4 a5
  unfold i_astore at hj
  split at hj
  · exact lv_astore X.1 X.2.1 hdg a5 hn rfl (fun ls' h' => hK _ _ _ _ _ _ hj H locs L ls' a1 a2 a3 a4 (LH.put h'))
  · exact hj.elim
theorem snd_lstore_n (X : Ax D ca A nL own nm cc ret p s m args meth c) {k : Fin 4} {i : Nat} (hdg : decode cc pc = .ok (.lstore_n k, 1)) (hi : (k : Nat) = i) (hn : i + 1 < nL) : Snd D A nL p l e R s m args below meth c Q KR (i_lstore i (pc + 1)) pc := by
  intro K hK c1 sl lv st h hj H locs L ls a1 a2 a3 a4 a5
  unfold i_lstore at hj
  split at hj
  · exact lv_lstore_n X.1 X.2.1 hdg hi a5 hn rfl (fun ls' h' => hK _ _ _ _ _ _ hj H locs L ls' a1 a2 a3 a4 (LH.putL h'))
  · exact hj.elim
theorem snd_iinc (X : Ax D ca A nL own nm cc ret p s m args meth c) {i : Nat} {n : Int} {d : Int32} (hdg : decode cc pc = .ok (.iinc i n, 3)) (hd : Int32.ofInt n = d) (hn : i < nL) : Snd D A nL p l e R s m args below meth c Q KR (i_iinc i d (pc + 3)) pc := by
  intro K hK c1 sl lv st h hj H locs L ls a1 a2 a3 a4 a5
  unfold i_iinc at hj
  split at hj
  · rename_i x hx
    obtain ⟨k, hk⟩ := List.getElem?_of_mem (mem_lvl.mpr hx)
    exact lv_iinc X.1 X.2.1 hdg a5 hk (by rw [hd]) hn rfl (fun ls' h' => hK _ _ _ _ _ _ hj H locs L ls' a1 a2 a3 a4 (LH.put h'))
  · exact hj.elim
theorem snd_iadd (X : Ax D ca A nL own nm cc ret p s m args meth c) (hdg : decode cc pc = .ok (.iadd, 1)) : Snd D A nL p l e R s m args below meth c Q KR (i_bin (fun x y => x + y) (pc + 1)) pc := by
  intro K hK c1 sl lv st h hj H locs L ls a1 a2 a3 a4 a5
  unfold i_bin at hj
  split at hj
  · exact lv_iadd X.1 X.2.1 hdg (hK _ _ _ _ _ _ hj H locs L ls a1 a2 a3 a4 a5)
  · exact hj.elim
theorem snd_isub (X : Ax D ca A nL own nm cc ret p s m args meth c) (hdg : decode cc pc = .ok (.isub, 1)) : Snd D A nL p l e R s m args below meth c Q KR (i_bin (fun x y => x - y) (pc + 1)) pc := by
  intro K hK c1 sl lv st h hj H locs L ls a1 a2 a3 a4 a5
  unfold i_bin at hj
  split at hj
  · exact lv_isub X.1 X.2.1 hdg (hK _ _ _ _ _ _ hj H locs L ls a1 a2 a3 a4 a5)
  · exact hj.elim
theorem snd_imul (X : Ax D ca A nL own nm cc ret p s m args meth c) (hdg : decode cc pc = .ok (.imul, 1)) : Snd D A nL p l e R s m args below meth c Q KR (i_bin (fun x y => x * y) (pc + 1)) pc := by
  intro K hK c1 sl lv st h hj H locs L ls a1 a2 a3 a4 a5
  unfold i_bin at hj
  split at hj
  · exact lv_imul X.1 X.2.1 hdg (hK _ _ _ _ _ _ hj H locs L ls a1 a2 a3 a4 a5)
  · exact hj.elim
theorem snd_iand (X : Ax D ca A nL own nm cc ret p s m args meth c) (hdg : decode cc pc = .ok (.iand, 1)) : Snd D A nL p l e R s m args below meth c Q KR (i_bin (fun x y => x &&& y) (pc + 1)) pc := by
  intro K hK c1 sl lv st h hj H locs L ls a1 a2 a3 a4 a5
  unfold i_bin at hj
  split at hj
  · exact lv_iand X.1 X.2.1 hdg (hK _ _ _ _ _ _ hj H locs L ls a1 a2 a3 a4 a5)
  · exact hj.elim
theorem snd_ior (X : Ax D ca A nL own nm cc ret p s m args meth c) (hdg : decode cc pc = .ok (.ior, 1)) : Snd D A nL p l e R s m args below meth c Q KR (i_bin (fun x y => x ||| y) (pc + 1)) pc := by
  intro K hK c1 sl lv st h hj H locs L ls a1 a2 a3 a4 a5
  unfold i_bin at hj
  split at hj
  · exact lv_ior X.1 X.2.1 hdg (hK _ _ _ _ _ _ hj H locs L ls a1 a2 a3 a4 a5)
  · exact hj.elim
theorem snd_ixor (X : Ax D ca A nL own nm cc ret p s m args meth c) (hdg : decode cc pc = .ok (.ixor, 1)) : Snd D A nL p l e R s m args below meth c Q KR (i_bin (fun x y => x ^^^ y) (pc + 1)) pc := by
  intro K hK c1 sl lv st h hj H locs L ls a1 a2 a3 a4 a5
  unfold i_bin at hj
  split at hj
  · exact lv_ixor X.1 X.2.1 hdg (hK _ _ _ _ _ _ hj H locs L ls a1 a2 a3 a4 a5)
  · exact hj.elim
theorem snd_ishl (X : Ax D ca A nL own nm cc ret p s m args meth c) (hdg : decode cc pc = .ok (.ishl, 1)) : Snd D A nL p l e R s m args below meth c Q KR (i_bin (fun x y => x <<< (y &&& 31)) (pc + 1)) pc := by
  intro K hK c1 sl lv st h hj H locs L ls a1 a2 a3 a4 a5
  unfold i_bin at hj
  split at hj
  · exact lv_ishl X.1 X.2.1 hdg (hK _ _ _ _ _ _ hj H locs L ls a1 a2 a3 a4 a5)
  · exact hj.elim
theorem snd_ishr (X : Ax D ca A nL own nm cc ret p s m args meth c) (hdg : decode cc pc = .ok (.ishr, 1)) : Snd D A nL p l e R s m args below meth c Q KR (i_bin (fun x y => x >>> (y &&& 31)) (pc + 1)) pc := by
  intro K hK c1 sl lv st h hj H locs L ls a1 a2 a3 a4 a5
  unfold i_bin at hj
  split at hj
  · exact lv_ishr X.1 X.2.1 hdg (hK _ _ _ _ _ _ hj H locs L ls a1 a2 a3 a4 a5)
  · exact hj.elim
theorem snd_idiv (X : Ax D ca A nL own nm cc ret p s m args meth c) (hdg : decode cc pc = .ok (.idiv, 1)) : Snd D A nL p l e R s m args below meth c Q KR (i_dv (fun x y => x / y) (pc + 1)) pc := by
  intro K hK c1 sl lv st h hj H locs L ls a1 a2 a3 a4 a5
  unfold i_dv at hj
  split at hj
  · exact lv_idiv X.1 X.2.1 hdg hj.1 (hK _ _ _ _ _ _ hj.2 H locs L ls a1 a2 a3 a4 a5)
  · exact hj.elim
theorem snd_irem (X : Ax D ca A nL own nm cc ret p s m args meth c) (hdg : decode cc pc = .ok (.irem, 1)) : Snd D A nL p l e R s m args below meth c Q KR (i_dv (fun x y => x - x / y * y) (pc + 1)) pc := by
  intro K hK c1 sl lv st h hj H locs L ls a1 a2 a3 a4 a5
  unfold i_dv at hj
  split at hj
  · exact lv_irem X.1 X.2.1 hdg hj.1 (hK _ _ _ _ _ _ hj.2 H locs L ls a1 a2 a3 a4 a5)
  · exact hj.elim
theorem snd_ineg (X : Ax D ca A nL own nm cc ret p s m args meth c) (hdg : decode cc pc = .ok (.ineg, 1)) : Snd D A nL p l e R s m args below meth c Q KR (i_un (fun x => -x) (pc + 1)) pc := by
  intro K hK c1 sl lv st h hj H locs L ls a1 a2 a3 a4 a5
  unfold i_un at hj
  split at hj
  · exact lv_ineg X.1 X.2.1 hdg (hK _ _ _ _ _ _ hj H locs L ls a1 a2 a3 a4 a5)
  · exact hj.elim
theorem snd_i2c (X : Ax D ca A nL own nm cc ret p s m args meth c) (hdg : decode cc pc = .ok (.i2c, 1)) : Snd D A nL p l e R s m args below meth c Q KR (i_un (fun x => (x.toUInt32 % 65536).toInt32) (pc + 1)) pc := by
  intro K hK c1 sl lv st h hj H locs L ls a1 a2 a3 a4 a5
  unfold i_un at hj
  split at hj
  · exact lv_i2c X.1 X.2.1 hdg rfl (hK _ _ _ _ _ _ hj H locs L ls a1 a2 a3 a4 a5)
  · exact hj.elim
theorem snd_ladd (X : Ax D ca A nL own nm cc ret p s m args meth c) (hdg : decode cc pc = .ok (.ladd, 1)) : Snd D A nL p l e R s m args below meth c Q KR (i_lbin (fun x y => x + y) (pc + 1)) pc := by
  intro K hK c1 sl lv st h hj H locs L ls a1 a2 a3 a4 a5
  unfold i_lbin at hj
  split at hj
  · exact lv_ladd X.1 X.2.1 hdg (hK _ _ _ _ _ _ hj H locs L ls a1 a2 a3 a4 a5)
  · exact hj.elim
theorem snd_lsub (X : Ax D ca A nL own nm cc ret p s m args meth c) (hdg : decode cc pc = .ok (.lsub, 1)) : Snd D A nL p l e R s m args below meth c Q KR (i_lbin (fun x y => x - y) (pc + 1)) pc := by
  intro K hK c1 sl lv st h hj H locs L ls a1 a2 a3 a4 a5
  unfold i_lbin at hj
  split at hj
  · exact lv_lsub X.1 X.2.1 hdg (hK _ _ _ _ _ _ hj H locs L ls a1 a2 a3 a4 a5)
  · exact hj.elim
theorem snd_lmul (X : Ax D ca A nL own nm cc ret p s m args meth c) (hdg : decode cc pc = .ok (.lmul, 1)) : Snd D A nL p l e R s m args below meth c Q KR (i_lbin (fun x y => x * y) (pc + 1)) pc := by
  intro K hK c1 sl lv st h hj H locs L ls a1 a2 a3 a4 a5
  unfold i_lbin at hj
  split at hj
  · exact lv_lmul X.1 X.2.1 hdg (hK _ _ _ _ _ _ hj H locs L ls a1 a2 a3 a4 a5)
  · exact hj.elim
theorem snd_lor (X : Ax D ca A nL own nm cc ret p s m args meth c) (hdg : decode cc pc = .ok (.lor, 1)) : Snd D A nL p l e R s m args below meth c Q KR (i_lbin (fun x y => x ||| y) (pc + 1)) pc := by
  intro K hK c1 sl lv st h hj H locs L ls a1 a2 a3 a4 a5
  unfold i_lbin at hj
  split at hj
  · exact lv_lor X.1 X.2.1 hdg (hK _ _ _ _ _ _ hj H locs L ls a1 a2 a3 a4 a5)
  · exact hj.elim
theorem snd_lshl (X : Ax D ca A nL own nm cc ret p s m args meth c) (hdg : decode cc pc = .ok (.lshl, 1)) : Snd D A nL p l e R s m args below meth c Q KR (i_lsh (fun x y => x <<< (y.toInt64 &&& 63)) (pc + 1)) pc := by
  intro K hK c1 sl lv st h hj H locs L ls a1 a2 a3 a4 a5
  unfold i_lsh at hj
  split at hj
  · exact lv_lshl X.1 X.2.1 hdg rfl (hK _ _ _ _ _ _ hj H locs L ls a1 a2 a3 a4 a5)
  · exact hj.elim
theorem snd_lushr (X : Ax D ca A nL own nm cc ret p s m args meth c) (hdg : decode cc pc = .ok (.lushr, 1)) : Snd D A nL p l e R s m args below meth c Q KR (i_lsh (fun x y => (x.toUInt64 >>> (y.toInt64.toUInt64 &&& Int64.toUInt64 63)).toInt64) (pc + 1)) pc := by
  intro K hK c1 sl lv st h hj H locs L ls a1 a2 a3 a4 a5
  unfold i_lsh at hj
  split at hj
  · exact lv_lushr X.1 X.2.1 hdg rfl (hK _ _ _ _ _ _ hj H locs L ls a1 a2 a3 a4 a5)
  · exact hj.elim
theorem snd_if_eq (X : Ax D ca A nL own nm cc ret p s m args meth c) {off : Int} {tgt : Nat} (hdg : decode cc pc = .ok (.ifCond .eq off, 3)) (ht : (pc : Int) + off = (tgt : Int)) : Snd D A nL p l e R s m args below meth c Q KR (i_if (fun x => x = 0) tgt (pc + 3)) pc := by
  intro K hK c1 sl lv st h hj H locs L ls a1 a2 a3 a4 a5
  unfold i_if at hj
  split at hj
  · exact lv_if_eq X.1 X.2.1 hdg ht (fun z => hK _ _ _ _ _ _ (by rw [if_pos z] at hj; exact hj) H locs L ls a1 a2 a3 a4 a5) (fun z => hK _ _ _ _ _ _ (by rw [if_neg z] at hj; exact hj) H locs L ls a1 a2 a3 a4 a5)
  · exact hj.elim
theorem snd_if_ne (X : Ax D ca A nL own nm cc ret p s m args meth c) {off : Int} {tgt : Nat} (hdg : decode cc pc = .ok (.ifCond .ne off, 3)) (ht : (pc : Int) + off = (tgt : Int)) : Snd D A nL p l e R s m args below meth c Q KR (i_if (fun x => ¬ x = 0) tgt (pc + 3)) pc := by
  intro K hK c1 sl lv st h hj H locs L ls a1 a2 a3 a4 a5
  unfold i_if at hj
  split at hj
  · exact lv_if_ne X.1 X.2.1 hdg ht (fun z => hK _ _ _ _ _ _ (by rw [if_pos z] at hj; exact hj) H locs L ls a1 a2 a3 a4 a5) (fun z => hK _ _ _ _ _ _ (by rw [if_neg (fun z2 => z2 z)] at hj; exact hj) H locs L ls a1 a2 a3 a4 a5)
  · exact hj.elim
theorem snd_if_lt (X : Ax D ca A nL own nm cc ret p s m args meth c) {off : Int} {tgt : Nat} (hdg : decode cc pc = .ok (.ifCond .lt off, 3)) (ht : (pc : Int) + off = (tgt : Int)) : Snd D A nL p l e R s m args below meth c Q KR (i_if (fun x => x < 0) tgt (pc + 3)) pc := by
  intro K hK c1 sl lv st h hj H locs L ls a1 a2 a3 a4 a5
  unfold i_if at hj
  split at hj
  · exact lv_if_lt X.1 X.2.1 hdg ht (fun z => hK _ _ _ _ _ _ (by rw [if_pos z] at hj; exact hj) H locs L ls a1 a2 a3 a4 a5) (fun z => hK _ _ _ _ _ _ (by rw [if_neg z] at hj; exact hj) H locs L ls a1 a2 a3 a4 a5)
  · exact hj.elim
theorem snd_if_ge (X : Ax D ca A nL own nm cc ret p s m args meth c) {off : Int} {tgt : Nat} (hdg : decode cc pc = .ok (.ifCond .ge off, 3)) (ht : (pc : Int) + off = (tgt : Int)) : Snd D A nL p l e R s m args below meth c Q KR (i_if (fun x => 0 ≤ x) tgt (pc + 3)) pc := by
  intro K hK c1 sl lv st h hj H locs L ls a1 a2 a3 a4 a5
  unfold i_if at hj
  split at hj
  · exact lv_if_ge X.1 X.2.1 hdg ht (fun z => hK _ _ _ _ _ _ (by rw [if_pos z] at hj; exact hj) H locs L ls a1 a2 a3 a4 a5) (fun z => hK _ _ _ _ _ _ (by rw [if_neg z] at hj; exact hj) H locs L ls a1 a2 a3 a4 a5)
  · exact hj.elim
theorem snd_if_gt (X : Ax D ca A nL own nm cc ret p s m args meth c) {off : Int} {tgt : Nat} (hdg : decode cc pc = .ok (.ifCond .gt off, 3)) (ht : (pc : Int) + off = (tgt : Int)) : Snd D A nL p l e R s m args below meth c Q KR (i_if (fun x => 0 < x) tgt (pc + 3)) pc := by
  intro K hK c1 sl lv st h hj H locs L ls a1 a2 a3 a4 a5
  unfold i_if at hj
  split at hj
  · exact lv_if_gt X.1 X.2.1 hdg ht (fun z => hK _ _ _ _ _ _ (by rw [if_pos z] at hj; exact hj) H locs L ls a1 a2 a3 a4 a5) (fun z => hK _ _ _ _ _ _ (by rw [if_neg z] at hj; exact hj) H locs L ls a1 a2 a3 a4 a5)
  · exact hj.elim
theorem snd_if_le (X : Ax D ca A nL own nm cc ret p s m args meth c) {off : Int} {tgt : Nat} (hdg : decode cc pc = .ok (.ifCond .le off, 3)) (ht : (pc : Int) + off = (tgt : Int)) : Snd D A nL p l e R s m args below meth c Q KR (i_if (fun x => x ≤ 0) tgt (pc + 3)) pc := by
  intro K hK c1 sl lv st h hj H locs L ls a1 a2 a3 a4 a5
  unfold i_if at hj
  split at hj
  · exact lv_if_le X.1 X.2.1 hdg ht (fun z => hK _ _ _ _ _ _ (by rw [if_pos z] at hj; exact hj) H locs L ls a1 a2 a3 a4 a5) (fun z => hK _ _ _ _ _ _ (by rw [if_neg z] at hj; exact hj) H locs L ls a1 a2 a3 a4 a5)
  · exact hj.elim
theorem snd_icmp_eq (X : Ax D ca A nL own nm cc ret p s m args meth c) {off : Int} {tgt : Nat} (hdg : decode cc pc = .ok (.if_icmp .eq off, 3)) (ht : (pc : Int) + off = (tgt : Int)) : Snd D A nL p l e R s m args below meth c Q KR (i_icmp (fun x y => x = y) tgt (pc + 3)) pc := by
  intro K hK c1 sl lv st h hj H locs L ls a1 a2 a3 a4 a5
  unfold i_icmp at hj
  split at hj
  · exact lv_icmp_eq X.1 X.2.1 hdg ht (fun z => hK _ _ _ _ _ _ (by rw [if_pos z] at hj; exact hj) H locs L ls a1 a2 a3 a4 a5) (fun z => hK _ _ _ _ _ _ (by rw [if_neg z] at hj; exact hj) H locs L ls a1 a2 a3 a4 a5)
  · exact hj.elim
theorem snd_icmp_ne (X : Ax D ca A nL own nm cc ret p s m args meth c) {off : Int} {tgt : Nat} (hdg : decode cc pc = .ok (.if_icmp .ne off, 3)) (ht : (pc : Int) + off = (tgt : Int)) : Snd D A nL p l e R s m args below meth c Q KR (i_icmp (fun x y => ¬ x = y) tgt (pc + 3)) pc := by
  intro K hK c1 sl lv st h hj H locs L ls a1 a2 a3 a4 a5
  unfold i_icmp at hj
  split at hj
  · exact lv_icmp_ne X.1 X.2.1 hdg ht (fun z => hK _ _ _ _ _ _ (by rw [if_pos z] at hj; exact hj) H locs L ls a1 a2 a3 a4 a5) (fun z => hK _ _ _ _ _ _ (by rw [if_neg (fun z2 => z2 z)] at hj; exact hj) H locs L ls a1 a2 a3 a4 a5)
  · exact hj.elim
theorem snd_icmp_lt (X : Ax D ca A nL own nm cc ret p s m args meth c) {off : Int} {tgt : Nat} (hdg : decode cc pc = .ok (.if_icmp .lt off, 3)) (ht : (pc : Int) + off = (tgt : Int)) : Snd D A nL p l e R s m args below meth c Q KR (i_icmp (fun x y => x < y) tgt (pc + 3)) pc := by
  intro K hK c1 sl lv st h hj H locs L ls a1 a2 a3 a4 a5
  unfold i_icmp at hj
  split at hj
  · exact lv_icmp_lt X.1 X.2.1 hdg ht (fun z => hK _ _ _ _ _ _ (by rw [if_pos z] at hj; exact hj) H locs L ls a1 a2 a3 a4 a5) (fun z => hK _ _ _ _ _ _ (by rw [if_neg z] at hj; exact hj) H locs L ls a1 a2 a3 a4 a5)
  · exact hj.elim
theorem snd_icmp_ge (X : Ax D ca A nL own nm cc ret p s m args meth c) {off : Int} {tgt : Nat} (hdg : decode cc pc = .ok (.if_icmp .ge off, 3)) (ht : (pc : Int) + off = (tgt : Int)) : Snd D A nL p l e R s m args below meth c Q KR (i_icmp (fun x y => y ≤ x) tgt (pc + 3)) pc := by
  intro K hK c1 sl lv st h hj H locs L ls a1 a2 a3 a4 a5
  unfold i_icmp at hj
  split at hj
  · exact lv_icmp_ge X.1 X.2.1 hdg ht (fun z => hK _ _ _ _ _ _ (by rw [if_pos z] at hj; exact hj) H locs L ls a1 a2 a3 a4 a5) (fun z => hK _ _ _ _ _ _ (by rw [if_neg z] at hj; exact hj) H locs L ls a1 a2 a3 a4 a5)
  · exact hj.elim
theorem snd_icmp_gt (X : Ax D ca A nL own nm cc ret p s m args meth c) {off : Int} {tgt : Nat} (hdg : decode cc pc = .ok (.if_icmp .gt off, 3)) (ht : (pc : Int) + off = (tgt : Int)) : Snd D A nL p l e R s m args below meth c Q KR (i_icmp (fun x y => y < x) tgt (pc + 3)) pc := by
  intro K hK c1 sl lv st h hj H locs L ls a1 a2 a3 a4 a5
  unfold i_icmp at hj
  split at hj
  · exact lv_icmp_gt X.1 X.2.1 hdg ht (fun z => hK _ _ _ _ _ _ (by rw [if_pos z] at hj; exact hj) H locs L ls a1 a2 a3 a4 a5) (fun z => hK _ _ _ _ _ _ (by rw [if_neg z] at hj; exact hj) H locs L ls a1 a2 a3 a4 a5)
  · exact hj.elim
theorem snd_icmp_le (X : Ax D ca A nL own nm cc ret p s m args meth c) {off : Int} {tgt : Nat} (hdg : decode cc pc = .ok (.if_icmp .le off, 3)) (ht : (pc : Int) + off = (tgt : Int)) : Snd D A nL p l e R s m args below meth c Q KR (i_icmp (fun x y => x ≤ y) tgt (pc + 3)) pc := by
  intro K hK c1 sl lv st h hj H locs L ls a1 a2 a3 a4 a5
  unfold i_icmp at hj
  split at hj
  · exact lv_icmp_le X.1 X.2.1 hdg ht (fun z => hK _ _ _ _ _ _ (by rw [if_pos z] at hj; exact hj) H locs L ls a1 a2 a3 a4 a5) (fun z => hK _ _ _ _ _ _ (by rw [if_neg z] at hj; exact hj) H locs L ls a1 a2 a3 a4 a5)
  · exact hj.elim
theorem snd_i2l (X : Ax D ca A nL own nm cc ret p s m args meth c) (hdg : decode cc pc = .ok (.i2l, 1)) : Snd D A nL p l e R s m args below meth c Q KR (i_i2l (pc + 1)) pc := by
  intro K hK c1 sl lv st h hj H locs L ls a1 a2 a3 a4 a5
  unfold i_i2l at hj
  split at hj
  · exact lv_i2l X.1 X.2.1 hdg rfl (hK _ _ _ _ _ _ hj H locs L ls a1 a2 a3 a4 a5)
  · exact hj.elim
theorem snd_l2i (X : Ax D ca A nL own nm cc ret p s m args meth c) (hdg : decode cc pc = .ok (.l2i, 1)) : Snd D A nL p l e R s m args below meth c Q KR (i_l2i (pc + 1)) pc := by
  intro K hK c1 sl lv st h hj H locs L ls a1 a2 a3 a4 a5
  unfold i_l2i at hj
  split at hj
  · exact lv_l2i X.1 X.2.1 hdg rfl (hK _ _ _ _ _ _ hj H locs L ls a1 a2 a3 a4 a5)
  · exact hj.elim
theorem snd_lcmp (X : Ax D ca A nL own nm cc ret p s m args meth c) (hdg : decode cc pc = .ok (.lcmp, 1)) : Snd D A nL p l e R s m args below meth c Q KR (i_lcmp (pc + 1)) pc := by
  intro K hK c1 sl lv st h hj H locs L ls a1 a2 a3 a4 a5
  unfold i_lcmp at hj
  split at hj
  · exact W.lcmp X.1 X.2.1 hdg (hK _ _ _ _ _ _ hj H locs L ls a1 a2 a3 a4 a5)
  · exact hj.elim
theorem snd_dup (X : Ax D ca A nL own nm cc ret p s m args meth c) (hdg : decode cc pc = .ok (.dup, 1)) : Snd D A nL p l e R s m args below meth c Q KR (i_dup (pc + 1)) pc := by
  intro K hK c1 sl lv st h hj H locs L ls a1 a2 a3 a4 a5
  unfold i_dup at hj
  split at hj
  · exact lv_dup X.1 X.2.1 hdg rfl (hK _ _ _ _ _ _ hj H locs L ls a1 a2 a3 a4 a5)
  · exact lv_dup X.1 X.2.1 hdg rfl (hK _ _ _ _ _ _ hj H locs L ls a1 a2 a3 a4 a5)
  · exact hj.elim
theorem snd_dup2 (X : Ax D ca A nL own nm cc ret p s m args meth c) (hdg : decode cc pc = .ok (.dup2, 1)) : Snd D A nL p l e R s m args below meth c Q KR (i_dup2 (pc + 1)) pc := by
  intro K hK c1 sl lv st h hj H locs L ls a1 a2 a3 a4 a5
  unfold i_dup2 at hj
  split at hj
  · exact lv_dup2_11 X.1 X.2.1 hdg rfl rfl (hK _ _ _ _ _ _ hj H locs L ls a1 a2 a3 a4 a5)
  · exact hj.elim
theorem snd_pop (X : Ax D ca A nL own nm cc ret p s m args meth c) (hdg : decode cc pc = .ok (.pop, 1)) : Snd D A nL p l e R s m args below meth c Q KR (i_pop (pc + 1)) pc := by
  intro K hK c1 sl lv st h hj H locs L ls a1 a2 a3 a4 a5
  unfold i_pop at hj
  split at hj
  · exact lv_pop X.1 X.2.1 hdg rfl (hK _ _ _ _ _ _ hj H locs L ls a1 a2 a3 a4 a5)
  · exact hj.elim
theorem snd_goto (X : Ax D ca A nL own nm cc ret p s m args meth c) {off : Int} {tgt : Nat} (hdg : decode cc pc = .ok (.goto off, 3)) (ht : (pc : Int) + off = (tgt : Int)) : Snd D A nL p l e R s m args below meth c Q KR (i_goto tgt) pc :=
  fun _ hK _ _ _ _ _ hi H locs L ls a1 a2 a3 a4 a5 => lv_goto X.1 X.2.1 hdg ht (hK _ _ _ _ _ _ hi H locs L ls a1 a2 a3 a4 a5)
end SND
