/-! the law: its claim's words (skeleton), rows for the script, its end -/
def R_law : String := "SnapStacksLaw"
def lw_P (b : Addr) (xs : List Int32) (args : Array Value) (s : State) : Prop := args = #[.ref b] ∧ s.IntsAt b xs ∧ xs.length ≤ 2560 ∧ (Jvm.Cond.and given_1 narrow_1).before args s = true
def lw_Q (_ : Array Value) (s : State) (o : Outcome) (t : State) : Prop := o = .returned (some (.int 1)) ∧ Framed s o t [] 600000 7302250
def lw_Z (below : List Frame) (a : Array Value) (s : State) : State → Prop := fun t => ∃ o, t.status = .running ∧ Ended t below o ∧ lw_Q a s o t
/-- the law's own end, with 1 on the stack, nothing written that was there before, its room as the claim has it -/
theorem lw_ret {p : Program} {l : Launch} {e : Env} {s : State} {m : MethodId} {below : List Frame} {meth : Method} {c : Code} {b : Nat} (hx : p.tables.exec = Jvm.exec) (hb : c.code = code) (hr : meth.sig.returnType = ret) (hlocks : meth.locks = false) {pc : Nat} {H : Heap} {ls : Array Slot} (hdg : decode code pc = .ok (.ireturn, 1)) : W p l e room_1 s m #[Value.ref b] below meth c H [] 600000 7302250 (lw_Z below #[Value.ref b] s) (F0 m pc ls [.int 1]) := by
  intro T hT X
  obtain ⟨fs, hret, hrun, hended, hW, hframe⟩ := X.leave (v := some (.int 1)) (hlocks := hlocks) (fun h => by rw [hr] at h; cases h)
  have hmeth' : T.vm.method? m = some meth := X.method'
  refine ⟨T.setFrames fs, ?_, .returned (some (.int 1)), hrun, hended, rfl, ⟨_, rfl⟩, hW, hframe⟩
  jvm_step X.here [X.here.top, hx, hb, hdg, hmeth', hr, ret, narrow_b1]
  (try refine ⟨rfl, ?_⟩); (try refine ⟨rfl, ?_⟩)
  first | (intro acts; rw [hret _ acts rfl rfl rfl]) | rw [hret _ _ rfl rfl rfl]
  exact Steps.refl _
/-- what holds at the law's entry: the machine, the code, the tables' words (any of lw_tbl by 'hts w (by decide +kernel)'), the script of L ints xs at the cell b, what the Statement gives of the start (any of its parts by flat_of_before) -/
def lw_At (p : Program) (s : State) (m : MethodId) (meth : Method) (c : Code) (b L : Nat) (xs : Nat → Int32) : Prop :=
  p.tables.exec = Jvm.exec ∧ c.code = code ∧ meth.sig.returnType = ret ∧ c.maxLocals = 4 ∧ s.vm.findClass R_law = some m.cls ∧ (∀ w ∈ lw_tbl, w.before #[Value.ref b] s = true) ∧ va_X b L xs s s.heap ∧ b < s.heap.size ∧ meth.locks = false ∧ (Jvm.Cond.and given_1 narrow_1).before #[Value.ref b] s = true
section
variable {D : va_G} {ca : Nat → ClassId} {A : Nat → Prop} {nL : Nat} {p : Program} {l : Launch} {e : Env} {R : Room} {s : State} {m : MethodId} {args : Array Value} {below : List Frame} {meth : Method} {c : Code} {Q : State → Prop} {own nm : String} {cc : ByteArray} {ret : Option FieldType} {KR : RT} {pc : Nat}
def i_slen (b L npc : Nat) : IT := fun K _ c sl _ lv st h => match st with
  | .ref a :: st' => a = b ∧ K c sl npc lv (.int (nI L) :: st') h
  | _ => False
def i_sld (b L : Nat) (xs : Nat → Int32) (npc : Nat) : IT := fun K _ c sl _ lv st h => match st with
  | .int i :: .ref a :: st' => a = b ∧ vp_in i L ∧ K c sl npc lv (.int (xs i.toNatClampNeg) :: st') h
  | _ => False
theorem snd_slen (X : Ax D ca A nL own nm cc ret p s m args meth c) {b L : Nat} {xs : Nat → Int32} (hX : va_X b L xs s s.heap) (hbl : b < s.heap.size) (hbA : ¬ A b) (hdg : decode cc pc = .ok (.arraylength, 1)) : Snd D A nL p l e R s m args below meth c Q KR (i_slen b L (pc + 1)) pc := by
  intro K hK c1 sl lv st h hj H locs L' ls a1 a2 a3 a4 a5
  unfold i_slen at hj
  split at hj
  · obtain ⟨rfl, hj⟩ := hj
    exact va_slen X.1 X.2.1 hX hbl hbA a4 hdg (hK _ _ _ _ _ _ hj H locs L' ls a1 a2 a3 a4 a5)
  · exact hj.elim
theorem snd_sld (X : Ax D ca A nL own nm cc ret p s m args meth c) {b L : Nat} {xs : Nat → Int32} (hX : va_X b L xs s s.heap) (hbl : b < s.heap.size) (hbA : ¬ A b) (hdg : decode cc pc = .ok (.iaload, 1)) : Snd D A nL p l e R s m args below meth c Q KR (i_sld b L xs (pc + 1)) pc := by
  intro K hK c1 sl lv st h hj H locs L' ls a1 a2 a3 a4 a5
  unfold i_sld at hj
  split at hj
  · obtain ⟨rfl, hin, hj⟩ := hj
    exact va_sld X.1 X.2.1 hX hbl hbA a4 hin hdg (hK _ _ _ _ _ _ hj H locs L' ls a1 a2 a3 a4 a5)
  · exact hj.elim
end
theorem snd_lawret {D : va_G} {ca : Nat → ClassId} {p : Program} {l : Launch} {e : Env} {s : State} {m : MethodId} {below : List Frame} {meth : Method} {c : Code} {own nm : String} {b pc : Nat} (X : Ax D ca (fun q => s.heap.size ≤ q) 4 own nm code ret p s m #[.ref b] meth c) (hdg : decode code pc = .ok (.ireturn, 1)) : Snd D (fun q => s.heap.size ≤ q) 4 p l e room_1 s m #[.ref b] below meth c (lw_Z below #[.ref b] s) (KRet 600000 7302250 (fun v _ => v = some (.int 1))) i_ret pc := by
  intro K hK c1 sl lv st h hj H locs L' ls a1 a2 a3 a4 a5
  unfold i_ret at hj
  split at hj
  · obtain ⟨g1, g2, hv⟩ := hj
    cases hv
    refine va_forget (fun q hq => a4.2.2 q hq) ?_
    refine W.widen (k := 600000) (n := 7302250) g1 g2 ?_
    exact lw_ret X.1 X.2.1 X.2.2.2.2.1 X.2.2.2.2.2.1 hdg
  · exact hj.elim
theorem swG_of {K : Nat → Prop} {d : Nat} {x : Int32} (hd : K d) : ∀ {ps : List (Int32 × Nat)}, (∀ q ∈ ps, K q.2) → swG K d ps x
  | [], _ => hd
  | (v, t) :: r, h => by
    unfold swG
    by_cases z : x = v
    · rw [if_pos z]; exact h (v, t) List.mem_cons_self
    · rw [if_neg z]; exact swG_of hd (fun q hq => h q (List.mem_cons_of_mem _ hq))
theorem LW.mono {ca : Nat → ClassId} {h : PH} {g q : Nat → Nat} {B B' : Nat} (hB : B ≤ B') (H : LW ca h g q B) : LW ca h g q B' := by
  obtain ⟨lk, s, oo, ss, S, n, f, fo, le, pe, sn, R, p, f', h1, h2, h3, h4, h5, h6⟩ := H
  exact ⟨lk, s, oo, ss, S, n, f, fo, le, pe, sn, R, p, f', h1, h2, h3, h4.mono hB, h5.mono hB, h6⟩
theorem LW.cell {ca : Nat → ClassId} {h : PH} {g q : Nat → Nat} {B : Nat} (H : LW ca h g q B) : ∃ fs, h (g 0) = some (.inr (7, fs)) := by
  obtain ⟨lk, s, oo, ss, S, n, f, fo, le, pe, sn, R, p, f', h1, h2, h3, h4, h5, h6⟩ := H
  exact ⟨_, h1.1.1⟩
