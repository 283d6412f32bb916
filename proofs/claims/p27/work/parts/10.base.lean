/-! base: heaps as functions of addresses, the judgement over them, one semantic row an instruction -/
abbrev PH : Type := Nat → Option va_E
def hd (h : PH) : Nat → va_E := fun a => (h a).getD (.inr (0, []))
def Dm (L : List Nat) (h : PH) : Prop := ∀ a : Nat, a ∈ L ↔ ∃ e, h a = some e
def tysOf (ca : Nat → ClassId) : List (ClassId × FieldType) := [(ca 0, .int), (ca 1, .long), (ca 2, .int), (ca 3, .char), (ca 4, .object RX2), (ca 5, .object RX4), (ca 6, .object RX5)]
abbrev LV : Type := List (Option Value)
abbrev SPEC : Type := List Value → PH → (Option Value → PH → Prop) → Prop
abbrev KT : Type := Nat → Nat → Nat → LV → List Value → PH → Prop
abbrev RT : Type := Nat → Nat → Option Value → PH → Prop
abbrev IT : Type := KT → RT → KT
/-! words -/
def lwg : List Cond := lw_tbl.filter goodWord
theorem lwg_ok {w : Cond} (h : w ∈ lwg) : w ∈ lw_tbl ∧ goodWord w = true := List.mem_filter.mp h
theorem mw (i : Nat) {w : Cond} (h : lw_tbl[i]? = some w) (hg : goodWord w = true) : w ∈ lwg := List.mem_filter.mpr ⟨List.mem_of_getElem? h, hg⟩
def nw1 : Cond := .methodLinkNest RX4 65 yX7_bendAt RX7
def nw2 : Cond := .methodLinkNest RX4 73 yX7_oneIf RX7
def nw3 : Cond := .methodLinkNest RX6 29 yX7_isWithin RX7
def NWs (U : State) : Prop := va_Nw nw1 U ∧ va_Nw nw2 U ∧ va_Nw nw3 U ∧ va_AO RX5 U ∧ va_AO RX2 U ∧ va_AO RX4 U
theorem NWs.warm {s U : State} (hW : s.WarmedH U.vm) (h : NWs s) : NWs U := ⟨h.1.warmM hW, h.2.1.warmM hW, h.2.2.1.warmM hW, h.2.2.2.1.moved hW.alike, h.2.2.2.2.1.moved hW.alike, h.2.2.2.2.2.moved hW.alike⟩
theorem NWs.same {u U : State} (e : u.vm = U.vm) (h : NWs u) : NWs U := ⟨h.1.same rfl e, h.2.1.same rfl e, h.2.2.1.same rfl e, h.2.2.2.1.moved (e ▸ Vm.Alike.refl u.vm), h.2.2.2.2.1.moved (e ▸ Vm.Alike.refl u.vm), h.2.2.2.2.2.moved (e ▸ Vm.Alike.refl u.vm)⟩
def wl (y : MethodName) (cc : ByteArray) (nL : Nat) (ret : Option FieldType) : List Cond := .code y cc nL ret :: lwg
/-! locals -/
def isL : Option Value → Bool
  | some (.long _) => true
  | some (.double _) => true
  | _ => false
def lget : LV → Nat → Option Value
  | [], _ => none
  | x :: _, 0 => x
  | _ :: l, i + 1 => lget l i
def lput : LV → Nat → Value → LV
  | [], _, _ => []
  | _ :: l, 0, v => some v :: l
  | x :: l, 1, v => (if isL x = true then none else x) :: lput l 0 v
  | x :: l, i + 2, v => x :: lput l (i + 1) v
def lcl0 : LV → LV
  | [] => []
  | _ :: l => none :: l
def lputL : LV → Nat → Value → LV
  | [], _, _ => []
  | _ :: l, 0, v => some v :: lcl0 l
  | x :: l, 1, v => (if isL x = true then none else x) :: lputL l 0 v
  | x :: l, i + 2, v => x :: lputL l (i + 1) v
theorem isL_cat {v : Value} (h : ¬ isL (some v) = true) : ¬ v.category = 2 := by
  cases v <;> simp_all [isL, Value.category]
theorem lget_lt {lv : LV} : ∀ {i : Nat} {v : Value}, lget lv i = some v → i < lv.length := by
  induction lv with
  | nil => intro i v h; cases i <;> simp [lget] at h
  | cons x l ih =>
    intro i v h
    cases i with
    | zero => simp
    | succ i => simp only [lget] at h; have := ih h; simp; exact this
theorem lput_get {lv : LV} : ∀ {i j : Nat} {v w : Value}, lget (lput lv i v) j = some w → (j = i ∧ w = v) ∨ (j ≠ i ∧ lget lv j = some w ∧ ¬ (j + 1 = i ∧ w.category = 2)) := by
  induction lv with
  | nil => intro i j v w h; cases j <;> simp [lput, lget] at h
  | cons x l ih =>
    intro i j v w h
    match i, j with
    | 0, 0 => simp only [lput, lget, Option.some.injEq] at h; exact Or.inl ⟨rfl, h.symm⟩
    | 0, j + 1 => simp only [lput, lget] at h; exact Or.inr ⟨by omega, by simp only [lget]; exact h, by omega⟩
    | 1, 0 =>
      simp only [lput, lget] at h
      split at h
      · cases h
      · rename_i hx
        subst h
        exact Or.inr ⟨by omega, by simp only [lget], fun q => isL_cat hx q.2⟩
    | 1, j + 1 =>
      simp only [lput, lget] at h
      rcases ih h with ⟨a, b⟩ | ⟨a, b, c⟩
      · exact Or.inl ⟨by omega, b⟩
      · exact Or.inr ⟨by omega, by simp only [lget]; exact b, by omega⟩
    | i + 2, 0 => simp only [lput, lget] at h; exact Or.inr ⟨by omega, by simp only [lget]; exact h, by omega⟩
    | i + 2, j + 1 =>
      simp only [lput, lget] at h
      rcases ih h with ⟨a, b⟩ | ⟨a, b, c⟩
      · exact Or.inl ⟨by omega, b⟩
      · exact Or.inr ⟨by omega, by simp only [lget]; exact b, fun q => c ⟨by omega, q.2⟩⟩
theorem lput_len {lv : LV} : ∀ {i : Nat} {v : Value}, (lput lv i v).length = lv.length := by
  induction lv with
  | nil => intro i v; simp [lput]
  | cons x l ih =>
    intro i v
    match i with
    | 0 => simp [lput]
    | 1 => simp [lput, ih]
    | i + 2 => simp [lput, ih]
theorem lcl0_get {lv : LV} {j : Nat} {w : Value} (h : lget (lcl0 lv) j = some w) : j ≠ 0 ∧ lget lv j = some w := by
  cases lv with
  | nil => cases j <;> simp [lcl0, lget] at h
  | cons x l =>
    cases j with
    | zero => simp [lcl0, lget] at h
    | succ j => simp only [lcl0, lget] at h; exact ⟨by omega, by simp only [lget]; exact h⟩
theorem lputL_get {lv : LV} : ∀ {i j : Nat} {v w : Value}, lget (lputL lv i v) j = some w → (j = i ∧ w = v) ∨ (j ≠ i ∧ j ≠ i + 1 ∧ lget lv j = some w ∧ ¬ (j + 1 = i ∧ w.category = 2)) := by
  induction lv with
  | nil => intro i j v w h; cases j <;> simp [lputL, lget] at h
  | cons x l ih =>
    intro i j v w h
    match i, j with
    | 0, 0 => simp only [lputL, lget, Option.some.injEq] at h; exact Or.inl ⟨rfl, h.symm⟩
    | 0, j + 1 =>
      simp only [lputL, lget] at h
      have h2 := lcl0_get h
      exact Or.inr ⟨by omega, by omega, by simp only [lget]; exact h2.2, by omega⟩
    | 1, 0 =>
      simp only [lputL, lget] at h
      split at h
      · cases h
      · rename_i hx
        subst h
        exact Or.inr ⟨by omega, by omega, by simp only [lget], fun q => isL_cat hx q.2⟩
    | 1, j + 1 =>
      simp only [lputL, lget] at h
      rcases ih h with ⟨a, b⟩ | ⟨a, b, c, d⟩
      · exact Or.inl ⟨by omega, b⟩
      · exact Or.inr ⟨by omega, by omega, by simp only [lget]; exact c, by omega⟩
    | i + 2, 0 => simp only [lputL, lget] at h; exact Or.inr ⟨by omega, by omega, by simp only [lget]; exact h, by omega⟩
    | i + 2, j + 1 =>
      simp only [lputL, lget] at h
      rcases ih h with ⟨a, b⟩ | ⟨a, b, c, d⟩
      · exact Or.inl ⟨by omega, b⟩
      · exact Or.inr ⟨by omega, by omega, by simp only [lget]; exact c, fun q => d ⟨by omega, q.2⟩⟩
def lvl (lv : LV) : List (Nat × Value) := (List.range lv.length).filterMap (fun i => (lget lv i).map (fun v => (i, v)))
theorem mem_lvl {lv : LV} {i : Nat} {v : Value} : (i, v) ∈ lvl lv ↔ lget lv i = some v := by
  unfold lvl
  rw [List.mem_filterMap]
  constructor
  · rintro ⟨j, -, hj⟩
    cases hg : lget lv j with
    | none => rw [hg] at hj; cases hj
    | some w =>
      rw [hg] at hj
      simp only [Option.map_some, Option.some.injEq, Prod.mk.injEq] at hj
      rw [← hj.1, hg, hj.2]
  · intro h
    exact ⟨i, List.mem_range.mpr (lget_lt h), by rw [h]; rfl⟩
def LH (ls : Array Slot) (nL : Nat) (lv : LV) : Prop := lv_has ls nL (lvl lv)
theorem LH.get {ls : Array Slot} {nL : Nat} {lv : LV} (h : LH ls nL lv) {i : Nat} {v : Value} (hg : lget lv i = some v) : ls[i]? = some (.val v) := h.2.2 (i, v) (mem_lvl.mpr hg)
theorem LH.of {ls : Array Slot} {nL : Nat} {lv : LV} {l : List (Nat × Value)} (h : lv_has ls nL l) (hs : ∀ i v, lget lv i = some v → (i, v) ∈ l) : LH ls nL lv :=
  ⟨h.1, h.2.1, fun q hq => h.2.2 q (hs q.1 q.2 (mem_lvl.mp hq))⟩
theorem LH.put {ls : Array Slot} {nL : Nat} {lv : LV} {i : Nat} {v : Value} (h : lv_has ls nL ((i, v) :: (lvl lv).filter (fun q => !(q.1 == i) && !(q.1 + 1 == i && q.2.category == 2)))) : LH ls nL (lput lv i v) := by
  refine LH.of h fun j w hj => ?_
  rcases lput_get hj with ⟨a, b⟩ | ⟨a, b, c⟩
  · subst a; subst b; exact List.mem_cons_self
  · refine List.mem_cons_of_mem _ (List.mem_filter.mpr ⟨mem_lvl.mpr b, ?_⟩)
    simp only [Bool.and_eq_true, Bool.not_eq_true', beq_eq_false_iff_ne, Bool.and_eq_false_iff]
    refine ⟨a, ?_⟩
    by_cases q : j + 1 = i
    · exact Or.inr (fun z => c ⟨q, z⟩)
    · exact Or.inl q
theorem LH.putL {ls : Array Slot} {nL : Nat} {lv : LV} {i : Nat} {v : Value} (h : lv_has ls nL ((i, v) :: (lvl lv).filter (fun q => !(q.1 == i) && (!(q.1 == i + 1) && !(q.1 + 1 == i && q.2.category == 2))))) : LH ls nL (lputL lv i v) := by
  refine LH.of h fun j w hj => ?_
  rcases lputL_get hj with ⟨a, b⟩ | ⟨a, a', b, c⟩
  · subst a; subst b; exact List.mem_cons_self
  · refine List.mem_cons_of_mem _ (List.mem_filter.mpr ⟨mem_lvl.mpr b, ?_⟩)
    simp only [Bool.and_eq_true, Bool.not_eq_true', beq_eq_false_iff_ne, Bool.and_eq_false_iff]
    refine ⟨a, a', ?_⟩
    by_cases q : j + 1 = i
    · exact Or.inr (fun z => c ⟨q, z⟩)
    · exact Or.inl q
def lv0 (av : List Value) (nL : Nat) : LV := av.map some ++ List.replicate (nL - av.length) none
theorem lg_none {n i : Nat} : lget (List.replicate n none) i = none := by
  induction n generalizing i with
  | zero => cases i <;> rfl
  | succ n ih =>
    rw [List.replicate_succ]
    cases i with
    | zero => rfl
    | succ i => exact ih
theorem lv0_args {av : List Value} {r : LV} (hr : ∀ i, lget r i = none) (hc : ∀ v ∈ av, v.category = 1) : ∀ (k i : Nat) (v : Value), lget (av.map some ++ r) i = some v → (k + i, v) ∈ lv_args k av := by
  induction av with
  | nil => intro k i v h; rw [List.map_nil, List.nil_append, hr] at h; cases h
  | cons w l ih =>
    intro k i v h
    have hw : w.category = 1 := hc w List.mem_cons_self
    cases i with
    | zero =>
      simp only [List.map_cons, List.cons_append, lget, Option.some.injEq] at h
      subst h
      exact List.mem_cons_self
    | succ i =>
      simp only [List.map_cons, List.cons_append, lget] at h
      have := ih (fun v hv => hc v (List.mem_cons_of_mem _ hv)) (k + 1) i v h
      refine List.mem_cons_of_mem _ ?_
      rw [hw, show k + (i + 1) = k + 1 + i by omega]
      exact this
/-! the heap as the kit's world -/
theorem pl_at {L : List Nat} {h : PH} {a : Nat} {e : va_E} (hm : Dm L h) (ha : h a = some e) : ∃ k : Nat, (va_pl L (hd h))[k]? = some (a, e) := by
  obtain ⟨k, hk⟩ := va_pl_get (X := []) (f := hd h) ((hm a).mpr ⟨e, ha⟩)
  refine ⟨k, ?_⟩
  rw [List.nil_append] at hk
  rw [hk]
  simp [hd, ha]
theorem hd_up (h : PH) (a : Nat) (e : va_E) : hd (va_up h a (some e)) = va_up (hd h) a e := by
  funext b
  by_cases hb : b = a
  · subst hb; simp [hd, va_up]
  · simp [hd, va_up, hb]
theorem pl_set {A : Nat → Prop} {L : List Nat} {h : PH} {a k : Nat} {e0 e : va_E} (hm : Dm L h) (hD : va_D A (va_pl L (hd h))) (ha : h a = some e0) (hk : (va_pl L (hd h))[k]? = some (a, e0)) : (va_pl L (hd h)).set k (a, e) = va_pl L (hd (va_up h a (some e))) := by
  have hh : hd h a = e0 := by simp [hd, ha]
  have := va_pl_set (X := []) (f := hd h) (e := e) (k := k) (by rw [List.nil_append]; exact hD) ((hm a).mpr ⟨e0, ha⟩) (by rw [List.nil_append, hk, hh])
  rw [List.nil_append, List.nil_append] at this
  rw [this, hd_up]
theorem Dm.up {L : List Nat} {h : PH} {a : Nat} {e0 e : va_E} (hm : Dm L h) (ha : h a = some e0) : Dm L (va_up h a (some e)) := by
  intro b
  by_cases hb : b = a
  · subst hb
    rw [va_up_self]
    exact ⟨fun _ => ⟨e, rfl⟩, fun _ => (hm b).mpr ⟨e0, ha⟩⟩
  · rw [va_up_ne _ _ hb]; exact hm b
theorem Dm.new {L : List Nat} {h : PH} {a : Nat} {e : va_E} (hm : Dm L h) : Dm (L ++ [a]) (va_up h a (some e)) := by
  intro b
  by_cases hb : b = a
  · subst hb
    rw [va_up_self]
    exact ⟨fun _ => ⟨e, rfl⟩, fun _ => List.mem_append_right _ (List.mem_singleton.mpr rfl)⟩
  · rw [va_up_ne _ _ hb, List.mem_append, List.mem_singleton]
    exact ⟨fun z => z.elim (fun z => (hm b).mp z) (fun z => absurd z hb), fun z => Or.inl ((hm b).mpr z)⟩
theorem pl_new {L : List Nat} {h : PH} {a : Nat} {e : va_E} (hm : Dm L h) (ha : h a = none) : va_pl L (hd h) ++ [(a, e)] = va_pl (L ++ [a]) (hd (va_up h a (some e))) := by
  rw [va_pl_push (fun z => by obtain ⟨e', h'⟩ := (hm a).mp z; rw [ha] at h'; cases h'), hd_up]
theorem pl_fresh {A : Nat → Prop} {L : List Nat} {h : PH} {a : Nat} {e : va_E} (hm : Dm L h) (hD : va_D A (va_pl L (hd h) ++ [(a, e)])) : h a = none := by
  cases hq : h a with
  | none => rfl
  | some e' =>
    exfalso
    obtain ⟨k, hk⟩ := pl_at hm hq
    have hl := (List.getElem?_eq_some_iff.mp hk).1
    have := hD.1 k (va_pl L (hd h)).length (a, e') (a, e) (by rw [List.getElem?_append_left hl]; exact hk) (by rw [List.getElem?_append_right (Nat.le_refl _), Nat.sub_self]; rfl) rfl
    omega
/-! the judgement, and what a method's activation knows -/
def Wq (D : va_G) (A : Nat → Prop) (nL : Nat) (p : Program) (l : Launch) (e : Env) (R : Room) (s : State) (m : MethodId) (args : Array Value) (below : List Frame) (meth : Method) (c : Code) (Q : State → Prop) : KT :=
  fun cells slots pc lv st h => ∀ (H : Heap) (locs : List Loc) (L : List Nat) (ls : Array Slot), Dm L h → va_P D vwCl (va_pl L (hd h)) H → va_D A (va_pl L (hd h)) → va_S A s.heap H locs → LH ls nL lv → W p l e R s m args below meth c H locs cells slots Q (F0 m pc ls st)
def Ax (D : va_G) (ca : Nat → ClassId) (A : Nat → Prop) (nL : Nat) (own nm : String) (cc : ByteArray) (ret : Option FieldType) (p : Program) (s : State) (m : MethodId) (args : Array Value) (meth : Method) (c : Code) : Prop :=
  p.tables.exec = Jvm.exec ∧ c.code = cc ∧ c.maxLocals = nL ∧ s.vm.findClass own = some m.cls ∧ meth.sig.returnType = ret ∧ meth.locks = false ∧ meth.name = nm ∧ (∀ w ∈ lwg, w.before args s = true) ∧ va_K D vwCl (tysOf ca) s ∧ NWs s ∧ ∀ q : Nat, s.heap.size ≤ q → A q
def Snd (D : va_G) (A : Nat → Prop) (nL : Nat) (p : Program) (l : Launch) (e : Env) (R : Room) (s : State) (m : MethodId) (args : Array Value) (below : List Frame) (meth : Method) (c : Code) (Q : State → Prop) (KR : RT) (i : IT) (pc : Nat) : Prop :=
  ∀ K : KT, (∀ c1 sl pc1 lv st h, K c1 sl pc1 lv st h → Wq D A nL p l e R s m args below meth c Q c1 sl pc1 lv st h) → ∀ c1 sl lv st h, i K KR c1 sl pc lv st h → Wq D A nL p l e R s m args below meth c Q c1 sl pc lv st h
/-! a method's body as a table of semantic rows; n steps of it, up to the stops -/
def wpS (tab : Nat → IT) (stops : Nat → Bool) (K : KT) (R : RT) : Nat → KT
  | 0 => K
  | n + 1 => fun c sl pc lv st h => if stops pc = true then K c sl pc lv st h else tab pc (wpS tab stops K R n) R c sl pc lv st h
def KRet (mc ms : Nat) (post : Option Value → PH → Prop) : RT := fun c sl v h => c ≤ mc ∧ sl ≤ ms ∧ post v h
def Pu (tab : Nat → IT) (mc ms : Nat) (lv : LV) (h : PH) (post : Option Value → PH → Prop) : Prop :=
  ∀ K : KT, (∀ stops n c sl pc lv st h, tab pc (wpS tab stops K (KRet mc ms post) n) (KRet mc ms post) c sl pc lv st h → K c sl pc lv st h) → K 0 0 0 lv [] h
theorem wpS_snd {D : va_G} {A : Nat → Prop} {nL : Nat} {p : Program} {l : Launch} {e : Env} {R : Room} {s : State} {m : MethodId} {args : Array Value} {below : List Frame} {meth : Method} {c : Code} {Q : State → Prop} {KR : RT} {tab : Nat → IT} (ht : ∀ pc, Snd D A nL p l e R s m args below meth c Q KR (tab pc) pc) (stops : Nat → Bool) : ∀ n c1 sl pc lv st h, wpS tab stops (Wq D A nL p l e R s m args below meth c Q) KR n c1 sl pc lv st h → Wq D A nL p l e R s m args below meth c Q c1 sl pc lv st h
  | 0, _, _, _, _, _, _, k => k
  | n + 1, c1, sl, pc, lv, st, h, k => by
    unfold wpS at k
    by_cases hs : stops pc = true
    · rw [if_pos hs] at k; exact k
    · rw [if_neg hs] at k; exact ht pc _ (fun c1 sl pc lv st h => wpS_snd ht stops n c1 sl pc lv st h) c1 sl lv st h k
theorem ifp {c : Prop} {d : Decidable c} {A B : Prop} (h1 : c → A) (h2 : ¬ c → B) : if c then A else B := by
  by_cases h : c
  · rw [if_pos h]; exact h1 h
  · rw [if_neg h]; exact h2 h
/-! a method's contract over such heaps -/
def QM (D : va_G) (A1 : Nat → Prop) (post : Option Value → PH → Prop) : Array Value → State → Outcome → State → Prop := fun _ st oc t => (∃ (v : Option Value) (h' : PH) (L' : List Nat), oc = .returned v ∧ post v h' ∧ Dm L' h' ∧ va_P D vwCl (va_pl L' (hd h')) t.heap ∧ va_D A1 (va_pl L' (hd h'))) ∧ va_F A1 st t
def rmD (d mc ms : Nat) : Room := { frames := d, cells := mc, slots := ms, locals := 37 * d }
def OkM (l : Launch) (D : va_G) (ca : Nat → ClassId) (y : MethodName) (cc : ByteArray) (nL : Nat) (ret : Option FieldType) (d mc ms : Nat) (av : List Value) (h : PH) (post : Option Value → PH → Prop) : Prop :=
  ∀ (L : List Nat) (sz : Nat), Dm L h → Met l y (wl y cc nL ret) (rmD d mc ms) (va_Pc av (fun U => U.heap.size = sz ∧ va_P D vwCl (va_pl L (hd h)) U.heap ∧ va_K D vwCl (tysOf ca) U ∧ NWs U ∧ va_D (fun _ => True) (va_pl L (hd h)))) (QM D (va_A (va_pl L (hd h)) sz) post) mc ms (va_A (va_pl L (hd h)) sz)
def Tb (tab : (Nat → ClassId) → Nat → IT) (y : MethodName) (cc : ByteArray) (nL : Nat) (ret : Option FieldType) (d mc ms : Nat) : Prop :=
  ∀ (l : Launch) (D : va_G) (ca : Nat → ClassId) (A : Nat → Prop) (p : Program) (e : Env) (s : State) (m : MethodId) (args : Array Value) (below : List Frame) (meth : Method) (c : Code) (post : Option Value → PH → Prop), Ax D ca A nL y.cls y.name cc ret p s m args meth c → ∀ pc, Snd D A nL p l e (rmD d mc ms) s m args below meth c (MQ below (QM D A post) args s mc ms A) (KRet mc ms post) (tab ca pc) pc
theorem lg_sl1 {av : List Value} (hc : ∀ v ∈ av, v.category = 1) : (lg_sl av).length = av.length := by
  induction av with
  | nil => rfl
  | cons w l ih =>
    have h1 := ih (fun v hv => hc v (List.mem_cons_of_mem _ hv))
    have hw : w.category = 1 := hc w List.mem_cons_self
    simp [lg_sl] at h1
    simp [lg_sl, hw, h1]
theorem mofW {l : Launch} {y : MethodName} {ws ws' : List Cond} {rm : Room} {Pc : Array Value → State → Prop} {Qc : Array Value → State → Outcome → State → Prop} {mc ms : Nat} {free : Addr → Prop} {cc : ByteArray} {maxL : Nat} {ret : Option FieldType}
    (hy : plainFor y = true) (hw : ws = Cond.code y cc maxL ret :: ws')
    (body : ∀ p e s m args below meth c s₁, BodyLoose p l y (headSpec ws rm) cc maxL ret e s m args below meth c s₁ → c.maxLocals = maxL → Pc args s →
      W p l e (headSpec ws rm).room s m args below meth c s.heap [] 0 0 (MQ below Qc args s mc ms free) (entryFrame m args maxL)) : Met l y ws rm Pc Qc mc ms free := by
  refine MetFree.of_bodySF (code := cc) (maxLocals := maxL) (ret := ret) hy ?_ ?_
  · intro args s m h hn
    obtain ⟨meth, c, h1, h2, h3, h4, h5, h6, -, -⟩ := Cond.code_spec hn (atoms_spec (ws := ws) h _ (by rw [hw]; exact List.mem_cons_self))
    exact ⟨meth, c, h1, h2, h3, h4, h5, h6⟩
  · intro p e s m args below meth c s₁ B hml hP _
    have hh0 : s₁.heap = s.heap := by rw [B.state]; rfl
    obtain ⟨t, a1, o, b1, b2, b3⟩ := body p e s m args below meth c s₁ B hml hP s₁ hh0 (Stand.of_body B)
    exact ⟨t, o, a1, b1, b2, ⟨b3.1, b3.2⟩⟩
theorem okM_of {l : Launch} {D : va_G} {ca : Nat → ClassId} {y : MethodName} {cc : ByteArray} {nL : Nat} {ret : Option FieldType} {d mc ms : Nat} {av : List Value} {h : PH} {post : Option Value → PH → Prop} {tab : (Nat → ClassId) → Nat → IT} (ht : Tb tab y cc nL ret d mc ms) (hy : plainFor y = true) (hc : ∀ v ∈ av, v.category = 1) (hn : av.length ≤ nL) (hp : Pu (tab ca) mc ms (lv0 av nL) h post) : OkM l D ca y cc nL ret d mc ms av h post := by
  intro L sz hm
  refine mofW (cc := cc) (maxL := nL) (ret := ret) hy rfl ?_
  intro p e s m args below meth c s₁ B hml hv
  obtain ⟨rfl, hsz, hP, hK, hN, hD0⟩ := hv
  subst hsz
  have hts := atoms_spec (ws := wl y cc nL ret) B.pre
  have X : Ax D ca (va_A (va_pl L (hd h)) s.heap.size) nL y.cls y.name cc ret p s m av.toArray meth c := ⟨B.exec, B.bytes, hml, findClass_of_methodNamed B.named, B.returns, B.notSynchronized, (name_of_methodNamed B.named B.method).1, fun w hw => hts w (List.mem_cons_of_mem _ hw), hK, hN, fun q hq => Or.inr hq⟩
  have hT := ht l D ca (va_A (va_pl L (hd h)) s.heap.size) p e s m av.toArray below meth c post X
  have key := hp (Wq D (va_A (va_pl L (hd h)) s.heap.size) nL p l e (rmD d mc ms) s m av.toArray below meth c (MQ below (QM D (va_A (va_pl L (hd h)) s.heap.size) post) av.toArray s mc ms (va_A (va_pl L (hd h)) s.heap.size))) (fun stops n c1 sl pc lv st h' k => hT pc _ (fun c1 sl pc lv st h => wpS_snd hT stops n c1 sl pc lv st h) c1 sl lv st h' k)
  rw [lg_entry_eq]
  have hle : (lg_sl av).length ≤ nL := by rw [lg_sl1 hc]; exact hn
  refine key s.heap [] L _ hm hP hD0.self va_S.rf ?_
  refine LH.of (lv_entry av hle) fun i v hg => ?_
  have := lv0_args (fun i => lg_none) hc 0 i v hg
  rw [Nat.zero_add] at this
  exact this
