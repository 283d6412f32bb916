/-! rows that read and write the heap, end a method, call -/
def FC (ci : Nat) (C : String) (T : u_T) (N : Nat) (ty : Nat → FieldType) : Prop := vwCl[ci]? = some (C, T, N) ∧ (∀ w ∈ u_ws C T N, w ∈ lwg) ∧ (∀ k, k < N → parseFieldDescriptor (T k).2.2.1 = some (ty k)) ∧ ∀ a, a < N → ∀ b, b < N → a ≠ b → (T a).2.1 ≠ (T b).2.1
theorem va_rf_some (a : Nat) : va_rf (some a) = .ref a := rfl
section SNH
variable {D : va_G} {ca : Nat → ClassId} {A : Nat → Prop} {nL : Nat} {p : Program} {l : Launch} {e : Env} {R : Room} {s : State} {m : MethodId} {args : Array Value} {below : List Frame} {meth : Method} {c : Code} {Q : State → Prop} {own nm : String} {cc : ByteArray} {ret : Option FieldType} {KR : RT} {pc : Nat}
theorem Ax.hts (X : Ax D ca A nL own nm cc ret p s m args meth c) {w : Cond} (h : w ∈ lwg) : w.before args s = true := X.2.2.2.2.2.2.2.1 w h
theorem snd_getf (X : Ax D ca A nL own nm cc ret p s m args meth c) {ci : Nat} {C : String} {T : u_T} {N : Nat} {ty : Nat → FieldType} (F : FC ci C T N ty) (k : Nat) (hk : k < N) {index : Nat} (hw : Cond.fieldLink own index (T k).1 (T k).2.1 (T k).2.2.1 ∈ lwg) (hdg : decode cc pc = .ok (.getfield index, 3)) : Snd D A nL p l e R s m args below meth c Q KR (i_getf ci k (pc + 3)) pc := by
  intro K hK c1 sl lv st h hj H locs L ls a1 a2 a3 a4 a5
  unfold i_getf at hj
  split at hj
  · split at hj
    · rename_i c' fs ha
      obtain ⟨rfl, hj⟩ := hj
      split at hj
      · rename_i v hv
        obtain ⟨q, hq⟩ := pl_at a1 ha
        exact va_get (Ts := lwg) X.1 X.2.1 X.2.2.2.2.2.2.2.1 F.2.1 X.2.2.2.1 X.2.2.2.2.2.2.2.2.1 a2 q hq F.1 k hk (X.hts hw) (fun _ h9 => h9) hv hdg (hK _ _ _ _ _ _ hj H locs L ls a1 a2 a3 a4 a5)
      · exact hj.elim
    · exact hj.elim
  · exact hj.elim
theorem snd_puti (X : Ax D ca A nL own nm cc ret p s m args meth c) {ci : Nat} {C : String} {T : u_T} {N : Nat} {ty : Nat → FieldType} (F : FC ci C T N ty) (k : Nat) (hk : k < N) (hf : (T k).2.2.2 = false) (hty : ty k = .int) {index : Nat} (hw : Cond.fieldLink own index (T k).1 (T k).2.1 (T k).2.2.1 ∈ lwg) (hdg : decode cc pc = .ok (.putfield index, 3)) : Snd D A nL p l e R s m args below meth c Q KR (i_puti ci k (pc + 3)) pc := by
  intro K hK c1 sl lv st h hj H locs L ls a1 a2 a3 a4 a5
  unfold i_puti at hj
  split at hj
  · split at hj
    · rename_i c' fs ha
      obtain ⟨rfl, hl, hj⟩ := hj
      obtain ⟨q, hq⟩ := pl_at a1 ha
      refine va_put (Ts := lwg) X.1 X.2.1 X.2.2.2.2.2.2.2.1 F.2.1 ty F.2.2.1 F.2.2.2 X.2.2.2.1 X.2.2.2.2.2.2.2.2.1 a2 a3 a4 q hq F.1 k hk (X.hts hw) (fun _ h9 => h9) hf ((F.2.2.1 k hk).trans (by rw [hty])) rfl rfl hl hdg (fun H1 locs1 b2 b3 b4 => ?_)
      rw [pl_set a1 a3 ha hq] at b2 b3
      exact hK _ _ _ _ _ _ hj H1 locs1 L ls (a1.up ha) b2 b3 b4 a5
    · exact hj.elim
  · exact hj.elim
theorem snd_putz (X : Ax D ca A nL own nm cc ret p s m args meth c) {ci : Nat} {C : String} {T : u_T} {N : Nat} {ty : Nat → FieldType} (F : FC ci C T N ty) (k : Nat) (hk : k < N) (hf : (T k).2.2.2 = false) (hty : ty k = .boolean) {index : Nat} (hw : Cond.fieldLink own index (T k).1 (T k).2.1 (T k).2.2.1 ∈ lwg) (hdg : decode cc pc = .ok (.putfield index, 3)) : Snd D A nL p l e R s m args below meth c Q KR (i_putz ci k (pc + 3)) pc := by
  intro K hK c1 sl lv st h hj H locs L ls a1 a2 a3 a4 a5
  unfold i_putz at hj
  split at hj
  · split at hj
    · rename_i c' fs ha
      obtain ⟨rfl, hl, hx, hj⟩ := hj
      obtain ⟨q, hq⟩ := pl_at a1 ha
      refine va_put (Ts := lwg) X.1 X.2.1 X.2.2.2.2.2.2.2.1 F.2.1 ty F.2.2.1 F.2.2.2 X.2.2.2.1 X.2.2.2.2.2.2.2.2.1 a2 a3 a4 q hq F.1 k hk (X.hts hw) (fun _ h9 => h9) hf ((F.2.2.1 k hk).trans (by rw [hty])) (by rcases hx with rfl | rfl <;> rfl) (by rcases hx with rfl | rfl <;> rfl) hl hdg (fun H1 locs1 b2 b3 b4 => ?_)
      rw [pl_set a1 a3 ha hq] at b2 b3
      exact hK _ _ _ _ _ _ hj H1 locs1 L ls (a1.up ha) b2 b3 b4 a5
    · exact hj.elim
  · exact hj.elim
theorem snd_putr (X : Ax D ca A nL own "<init>" cc ret p s m args meth c) {ci : Nat} {C : String} {T : u_T} {N : Nat} {ty : Nat → FieldType} (F : FC ci C T N ty) (k : Nat) (hk : k < N) (hf : (T k).2.2.2 = true) (ho : (T k).1 = own) (hty : ∀ a : Nat, narrow (ty k) (.ref a) = .ref a ∧ fits (ty k) (.ref a) = true) {index : Nat} (hw : Cond.fieldLink own index (T k).1 (T k).2.1 (T k).2.2.1 ∈ lwg) (hdg : decode cc pc = .ok (.putfield index, 3)) : Snd D A nL p l e R s m args below meth c Q KR (i_putr ci k (pc + 3)) pc := by
  intro K hK c1 sl lv st h hj H locs L ls a1 a2 a3 a4 a5
  unfold i_putr at hj
  split at hj
  · split at hj
    · rename_i c' fs ha
      obtain ⟨rfl, hl, hj⟩ := hj
      obtain ⟨q, hq⟩ := pl_at a1 ha
      refine va_putF (Ts := lwg) X.1 X.2.1 X.2.2.2.2.2.2.2.1 F.2.1 ty F.2.2.1 F.2.2.2 X.2.2.2.1 X.2.2.2.2.2.2.2.2.1 a2 a3 a4 q hq F.1 k hk (X.hts hw) (fun _ h9 => h9) hf X.2.2.2.2.2.2.1 ho (F.2.2.1 k hk) (hty _).1 (hty _).2 hl hdg (fun H1 locs1 b2 b3 b4 => ?_)
      rw [pl_set a1 a3 ha hq] at b2 b3
      exact hK _ _ _ _ _ _ hj H1 locs1 L ls (a1.up ha) b2 b3 b4 a5
    · exact hj.elim
  · exact hj.elim
theorem snd_iaload (X : Ax D ca A nL own nm cc ret p s m args meth c) (hdg : decode cc pc = .ok (.iaload, 1)) : Snd D A nL p l e R s m args below meth c Q KR (i_ald (ca 0) (pc + 1)) pc := by
  intro K hK c1 sl lv st h hj H locs L ls a1 a2 a3 a4 a5
  unfold i_ald at hj
  split at hj
  · split at hj
    · rename_i c' n f ha
      obtain ⟨rfl, hin, hj⟩ := hj
      obtain ⟨q, hq⟩ := pl_at a1 ha
      exact va_iald X.1 X.2.1 X.2.2.2.2.2.2.2.2.1 a2 q 0 hq rfl hin hdg (hK _ _ _ _ _ _ hj H locs L ls a1 a2 a3 a4 a5)
    · exact hj.elim
  · exact hj.elim
theorem snd_caload (X : Ax D ca A nL own nm cc ret p s m args meth c) (hdg : decode cc pc = .ok (.caload, 1)) : Snd D A nL p l e R s m args below meth c Q KR (i_ald (ca 3) (pc + 1)) pc := by
  intro K hK c1 sl lv st h hj H locs L ls a1 a2 a3 a4 a5
  unfold i_ald at hj
  split at hj
  · split at hj
    · rename_i c' n f ha
      obtain ⟨rfl, hin, hj⟩ := hj
      obtain ⟨q, hq⟩ := pl_at a1 ha
      exact va_cald X.1 X.2.1 X.2.2.2.2.2.2.2.2.1 a2 q 3 hq rfl hin hdg (hK _ _ _ _ _ _ hj H locs L ls a1 a2 a3 a4 a5)
    · exact hj.elim
  · exact hj.elim
theorem snd_iastore (X : Ax D ca A nL own nm cc ret p s m args meth c) (hdg : decode cc pc = .ok (.iastore, 1)) : Snd D A nL p l e R s m args below meth c Q KR (i_ast (fun x => x) (ca 0) (pc + 1)) pc := by
  intro K hK c1 sl lv st h hj H locs L ls a1 a2 a3 a4 a5
  unfold i_ast at hj
  split at hj
  · split at hj
    · rename_i c' n f ha
      obtain ⟨rfl, hin, hj⟩ := hj
      obtain ⟨q, hq⟩ := pl_at a1 ha
      refine va_iast X.1 X.2.1 X.2.2.2.2.2.2.2.2.1 a2 a3 a4 q 0 hq rfl hin hdg (fun H1 locs1 b2 b3 b4 => ?_)
      rw [pl_set a1 a3 ha hq] at b2 b3
      exact hK _ _ _ _ _ _ hj H1 locs1 L ls (a1.up ha) b2 b3 b4 a5
    · exact hj.elim
  · exact hj.elim
theorem snd_castore (X : Ax D ca A nL own nm cc ret p s m args meth c) (hdg : decode cc pc = .ok (.castore, 1)) : Snd D A nL p l e R s m args below meth c Q KR (i_ast (vp_nar .char) (ca 3) (pc + 1)) pc := by
  intro K hK c1 sl lv st h hj H locs L ls a1 a2 a3 a4 a5
  unfold i_ast at hj
  split at hj
  · split at hj
    · rename_i c' n f ha
      obtain ⟨rfl, hin, hj⟩ := hj
      obtain ⟨q, hq⟩ := pl_at a1 ha
      refine va_cast X.1 X.2.1 X.2.2.2.2.2.2.2.2.1 a2 a3 a4 q 3 hq rfl hin hdg (fun H1 locs1 b2 b3 b4 => ?_)
      rw [pl_set a1 a3 ha hq] at b2 b3
      exact hK _ _ _ _ _ _ hj H1 locs1 L ls (a1.up ha) b2 b3 b4 a5
    · exact hj.elim
  · exact hj.elim
theorem snd_laload (X : Ax D ca A nL own nm cc ret p s m args meth c) (hdg : decode cc pc = .ok (.laload, 1)) : Snd D A nL p l e R s m args below meth c Q KR (i_lald (ca 1) (pc + 1)) pc := by
  intro K hK c1 sl lv st h hj H locs L ls a1 a2 a3 a4 a5
  unfold i_lald at hj
  split at hj
  · split at hj
    · rename_i c' n f ha
      obtain ⟨rfl, hin, hj⟩ := hj
      obtain ⟨q, hq⟩ := pl_at a1 ha
      exact va_lald X.1 X.2.1 X.2.2.2.2.2.2.2.2.1 a2 q 1 hq rfl hin hdg (hK _ _ _ _ _ _ hj H locs L ls a1 a2 a3 a4 a5)
    · exact hj.elim
  · exact hj.elim
theorem snd_lastore (X : Ax D ca A nL own nm cc ret p s m args meth c) (hdg : decode cc pc = .ok (.lastore, 1)) : Snd D A nL p l e R s m args below meth c Q KR (i_last (ca 1) (pc + 1)) pc := by
  intro K hK c1 sl lv st h hj H locs L ls a1 a2 a3 a4 a5
  unfold i_last at hj
  split at hj
  · split at hj
    · rename_i c' n f ha
      obtain ⟨rfl, hin, hj⟩ := hj
      obtain ⟨q, hq⟩ := pl_at a1 ha
      refine va_last X.1 X.2.1 X.2.2.2.2.2.2.2.2.1 a2 a3 a4 q 1 hq rfl hin hdg (fun H1 locs1 b2 b3 b4 => ?_)
      rw [pl_set a1 a3 ha hq] at b2 b3
      exact hK _ _ _ _ _ _ hj H1 locs1 L ls (a1.up ha) b2 b3 b4 a5
    · exact hj.elim
  · exact hj.elim
theorem snd_aaload (X : Ax D ca A nL own nm cc ret p s m args meth c) (k : Nat) {C : String} (hk : (tysOf ca)[k]? = some (ca k, .object C)) (hdg : decode cc pc = .ok (.aaload, 1)) : Snd D A nL p l e R s m args below meth c Q KR (i_aald (ca k) (pc + 1)) pc := by
  intro K hK c1 sl lv st h hj H locs L ls a1 a2 a3 a4 a5
  unfold i_aald at hj
  split at hj
  · split at hj
    · rename_i c' n f ha
      obtain ⟨rfl, hin, hj⟩ := hj
      obtain ⟨q, hq⟩ := pl_at a1 ha
      exact va_aldq (C := C) X.1 X.2.1 X.2.2.2.2.2.2.2.2.1 a2 q k hq hk hin hdg (hK _ _ _ _ _ _ hj H locs L ls a1 a2 a3 a4 a5)
    · exact hj.elim
  · exact hj.elim
theorem snd_aastore (X : Ax D ca A nL own nm cc ret p s m args meth c) (k : Nat) {ci : Nat} {C : String} {T : u_T} {N : Nat} {ty : Nat → FieldType} (F : FC ci C T N ty) (hk : (tysOf ca)[k]? = some (ca k, .object C)) (hdg : decode cc pc = .ok (.aastore, 1)) : Snd D A nL p l e R s m args below meth c Q KR (i_aast ci (ca k) (pc + 1)) pc := by
  intro K hK c1 sl lv st h hj H locs L ls a1 a2 a3 a4 a5
  unfold i_aast at hj
  split at hj
  · split at hj
    · rename_i c0 fs hx
      obtain ⟨rfl, hj⟩ := hj
      split at hj
      · rename_i c' n f ha
        obtain ⟨rfl, hin, hj⟩ := hj
        obtain ⟨q, hq⟩ := pl_at a1 ha
        obtain ⟨q2, hq2⟩ := pl_at a1 hx
        refine va_astq (r := (C, T, N)) X.1 X.2.1 X.2.2.2.2.2.2.2.2.1 a2 a3 a4 q k q2 _ hq hk hq2 F.1 hin hdg (fun H1 locs1 b2 b3 b4 => ?_)
        rw [pl_set a1 a3 ha hq] at b2 b3
        exact hK _ _ _ _ _ _ hj H1 locs1 L ls (a1.up ha) b2 b3 b4 a5
      · exact hj.elim
    · exact hj.elim
  · exact hj.elim
theorem snd_alen (X : Ax D ca A nL own nm cc ret p s m args meth c) (hdg : decode cc pc = .ok (.arraylength, 1)) : Snd D A nL p l e R s m args below meth c Q KR (i_alen (ca 0) (pc + 1)) pc := by
  intro K hK c1 sl lv st h hj H locs L ls a1 a2 a3 a4 a5
  unfold i_alen at hj
  split at hj
  · split at hj
    · rename_i c' n f ha
      obtain ⟨rfl, hj⟩ := hj
      obtain ⟨q, hq⟩ := pl_at a1 ha
      exact va_alen X.1 X.2.1 X.2.2.2.2.2.2.2.2.1 a2 q 0 hq (ty := .int) rfl rfl hdg (hK _ _ _ _ _ _ hj H locs L ls a1 a2 a3 a4 a5)
    · exact hj.elim
  · exact hj.elim
theorem swG_cases {K : Nat → Prop} {d : Nat} : ∀ {ps : List (Int32 × Nat)} {x : Int32}, swG K d ps x → (∃ q ∈ ps, x = q.1 ∧ K q.2) ∨ ((∀ q ∈ ps, ¬ x = q.1) ∧ K d)
  | [], x, h => Or.inr ⟨fun q hq => absurd hq List.not_mem_nil, h⟩
  | (v, t) :: r, x, h => by
    unfold swG at h
    by_cases hx : x = v
    · rw [if_pos hx] at h
      exact Or.inl ⟨(v, t), List.mem_cons_self, hx, h⟩
    · rw [if_neg hx] at h
      rcases swG_cases h with ⟨q, hq, h1, h2⟩ | ⟨h1, h2⟩
      · exact Or.inl ⟨q, List.mem_cons_of_mem _ hq, h1, h2⟩
      · refine Or.inr ⟨fun q hq => ?_, h2⟩
        rcases List.mem_cons.mp hq with rfl | hq
        · exact hx
        · exact h1 q hq
theorem snd_table (X : Ax D ca A nL own nm cc ret p s m args meth c) {dflt lo hi : Int} {offs : Array Int} {len d : Nat} {ps : List (Int32 × Nat)} (hdg : decode cc pc = .ok (.tableswitch dflt lo hi offs, len)) (hd : (pc : Int) + dflt = (d : Int))
    (h1 : ∀ q ∈ ps, ¬ q.1.toInt < lo ∧ ¬ hi < q.1.toInt ∧ (offs[(q.1.toInt - lo).toNat]?).map (fun o => (pc : Int) + o) = some (q.2 : Int)) (h2 : ps.map (fun q => q.1.toInt) = (List.range (hi - lo + 1).toNat).map (fun i : Nat => lo + (i : Int))) : Snd D A nL p l e R s m args below meth c Q KR (i_sw ps d) pc := by
  intro K hK c1 sl lv st h hj H locs L ls a1 a2 a3 a4 a5
  unfold i_sw at hj
  split at hj
  · rename_i x st'
    rcases swG_cases hj with ⟨q, hq, hx, hk⟩ | ⟨hx, hk⟩
    · subst hx
      obtain ⟨g1, g2, g3⟩ := h1 q hq
      cases ho : offs[(q.1.toInt - lo).toNat]? with
      | none => rw [ho] at g3; cases g3
      | some o =>
        rw [ho] at g3
        exact lv_tableIn X.1 X.2.1 hdg g1 g2 ho (Option.some.inj g3) (hK _ _ _ _ _ _ hk H locs L ls a1 a2 a3 a4 a5)
    · have ho : x.toInt < lo ∨ hi < x.toInt := by
        by_cases q1 : x.toInt < lo
        · exact Or.inl q1
        · by_cases q2 : hi < x.toInt
          · exact Or.inr q2
          · exfalso
            have hm : x.toInt ∈ ps.map (fun q => q.1.toInt) := by
              rw [h2]
              exact List.mem_map.mpr ⟨(x.toInt - lo).toNat, List.mem_range.mpr (by omega), by omega⟩
            obtain ⟨q, hq, he⟩ := List.mem_map.mp hm
            exact hx q hq (Int32.toInt_inj.mp he.symm)
      exact lv_tableOut X.1 X.2.1 hdg ho hd (hK _ _ _ _ _ _ hk H locs L ls a1 a2 a3 a4 a5)
  · exact hj.elim
theorem swG_off {K : Nat → Prop} {d pc : Nat} {dflt : Int} (hd : (pc : Int) + dflt = (d : Int)) : ∀ {ps : List (Int32 × Nat)} {po : List (Int × Int)} {x : Int32}, po.map (fun a => (a.1, (pc : Int) + a.2)) = ps.map (fun q => (q.1.toInt, (q.2 : Int))) → swG K d ps x → ∃ tgt : Nat, (pc : Int) + Op.lookupswitch.offset po dflt x.toInt = (tgt : Int) ∧ K tgt
  | [], [], x, _, h => ⟨d, hd, h⟩
  | [], _ :: _, x, e, h => by simp at e
  | _ :: _, [], x, e, h => by simp at e
  | (v, t) :: r, (a, o) :: po, x, e, h => by
    simp only [List.map_cons, List.cons.injEq, Prod.mk.injEq] at e
    obtain ⟨⟨e1, e2⟩, e3⟩ := e
    rw [Op.lookupswitch.offset_cons]
    unfold swG at h
    by_cases hx : x = v
    · subst hx
      rw [if_pos rfl] at h
      rw [if_pos e1]
      exact ⟨t, e2, h⟩
    · rw [if_neg hx] at h
      rw [if_neg (fun z => hx (Int32.toInt_inj.mp (z.symm.trans e1)))]
      exact swG_off hd e3 h
theorem snd_lookup (X : Ax D ca A nL own nm cc ret p s m args meth c) {dflt : Int} {po : Array (Int × Int)} {len d : Nat} {ps : List (Int32 × Nat)} (hdg : decode cc pc = .ok (.lookupswitch dflt po, len)) (hd : (pc : Int) + dflt = (d : Int)) (hp : (po.toList.zip (po.toList.drop 1)).all (fun (a, next) => a.1 < next.1) = true) (h2 : po.toList.map (fun a => (a.1, (pc : Int) + a.2)) = ps.map (fun q => (q.1.toInt, (q.2 : Int)))) : Snd D A nL p l e R s m args below meth c Q KR (i_sw ps d) pc := by
  intro K hK c1 sl lv st h hj H locs L ls a1 a2 a3 a4 a5
  unfold i_sw at hj
  split at hj
  · obtain ⟨tgt, g1, g2⟩ := swG_off hd h2 hj
    exact lv_lookup X.1 X.2.1 hdg hp rfl g1 (hK _ _ _ _ _ _ g2 H locs L ls a1 a2 a3 a4 a5)
  · exact hj.elim
theorem snd_new (X : Ax D ca A nL own nm cc ret p s m args meth c) {ci : Nat} {C : String} {T : u_T} {N : Nat} {ty : Nat → FieldType} (F : FC ci C T N ty) {index : Nat} {fs : List Value} {MC MS : Nat} (hMC : R.cells = MC) (hMS : R.slots = MS) (hw1 : Cond.classLink own index C ∈ lwg) (hw2 : Cond.instantiable C N ∈ lwg) (hw3 : Cond.initialized C ∈ lwg) (hfs : ∀ j, j < N → defaultValue (ty j) = vp_V fs j) (hdg : decode cc pc = .ok (.new index, 3)) : Snd D A nL p l e R s m args below meth c Q KR (i_new MC MS ci N fs (pc + 3)) pc := by
  intro K hK c1 sl lv st h hj H locs L ls a1 a2 a3 a4 a5
  subst hMC; subst hMS
  obtain ⟨g1, g2, hj⟩ := hj
  refine va_new (Ts := lwg) X.1 X.2.1 X.2.2.2.2.2.2.2.1 F.2.1 ty F.2.2.1 X.2.2.2.1 (X.hts hw1) (X.hts hw2) (X.hts hw3) X.2.2.2.2.2.2.2.2.1 a2 a3 a4 X.2.2.2.2.2.2.2.2.2.2 F.1 hfs g1 g2 hdg (fun q H1 b2 b3 b4 => ?_)
  have hq := pl_fresh a1 b3
  rw [pl_new a1 hq] at b2 b3
  exact hK _ _ _ _ _ _ (hj q hq) H1 locs (L ++ [q]) ls a1.new b2 b3 b4 a5
theorem ca_ra (X : Ax D ca A nL own nm cc ret p s m args meth c) {k : Nat} {cA : ClassId} {ty : FieldType} (hk : (tysOf ca)[k]? = some (ca k, ty)) {tys : List (ClassId × FieldType)} (h : va_K D vwCl (tysOf ca ++ [(cA, ty)]) s) : cA = ca k := by
  have h1 := (h.2 7 (cA, ty) rfl).2
  have h2 := (X.2.2.2.2.2.2.2.2.1.2 k _ hk).2
  cases ty with
  | object C =>
    obtain ⟨_, _, _, _, _, q1⟩ := h1
    obtain ⟨_, _, _, _, _, q2⟩ := h2
    exact Option.some.inj (q1.symm.trans q2)
  | _ => exact Option.some.inj (h1.symm.trans h2)
theorem snd_newi (X : Ax D ca A nL own nm cc ret p s m args meth c) (k : Nat) {ty : FieldType} {atype : ArrayType} {MC MS N : Nat} (hMC : R.cells = MC) (hMS : R.slots = MS) (hty : newarray.typeOf atype = ty) (hk : (tysOf ca)[k]? = some (ca k, ty)) (hz : defaultValue ty = .int 0) (hw : Cond.arrayClass (newarray.typeOf atype) ∈ lwg) (hbytes : N * componentBytes ty ≤ 536870912) (hdg : decode cc pc = .ok (.newarray atype, 2)) : Snd D A nL p l e R s m args below meth c Q KR (i_newi MC MS (ca k) N (pc + 2)) pc := by
  intro K hK c1 sl lv st h hj H locs L ls a1 a2 a3 a4 a5
  subst hMC; subst hMS
  unfold i_newi at hj
  split at hj
  · obtain ⟨g0, g1, g2, g3, hj⟩ := hj
    refine va_newa (a0 := (N, .inl (fun _ => 0))) X.1 X.2.1 (X.hts hw) hty X.2.2.2.2.2.2.2.2.1 a2 a3 a4 X.2.2.2.2.2.2.2.2.2.2 (fun cA => by rw [hz]; rfl) g0 g1 hbytes g2 g3 hdg (fun q cA H1 b1 b2 b3 b4 => ?_)
    have hc := ca_ra X hk (tys := []) b1
    subst hc
    have hq := pl_fresh a1 b3
    rw [pl_new a1 hq] at b2 b3
    exact hK _ _ _ _ _ _ (hj q hq) H1 locs (L ++ [q]) ls a1.new b2 b3 b4 a5
  · exact hj.elim
theorem snd_newl (X : Ax D ca A nL own nm cc ret p s m args meth c) {atype : ArrayType} {MC MS N : Nat} (hMC : R.cells = MC) (hMS : R.slots = MS) (hty : newarray.typeOf atype = .long) (hw : Cond.arrayClass (newarray.typeOf atype) ∈ lwg) (hbytes : N * componentBytes .long ≤ 536870912) (hdg : decode cc pc = .ok (.newarray atype, 2)) : Snd D A nL p l e R s m args below meth c Q KR (i_newl MC MS (ca 1) N (pc + 2)) pc := by
  intro K hK c1 sl lv st h hj H locs L ls a1 a2 a3 a4 a5
  subst hMC; subst hMS
  unfold i_newl at hj
  split at hj
  · obtain ⟨g0, g1, g2, g3, hj⟩ := hj
    refine va_newa (a0 := (N, .inr (.inl (fun _ => 0)))) X.1 X.2.1 (X.hts hw) hty X.2.2.2.2.2.2.2.2.1 a2 a3 a4 X.2.2.2.2.2.2.2.2.2.2 (fun cA => rfl) g0 g1 hbytes g2 g3 hdg (fun q cA H1 b1 b2 b3 b4 => ?_)
    have hc := ca_ra X (k := 1) rfl (tys := []) b1
    subst hc
    have hq := pl_fresh a1 b3
    rw [pl_new a1 hq] at b2 b3
    exact hK _ _ _ _ _ _ (hj q hq) H1 locs (L ++ [q]) ls a1.new b2 b3 b4 a5
  · exact hj.elim
theorem snd_newq (X : Ax D ca A nL own nm cc ret p s m args meth c) (k : Nat) {C : String} {index MC MS N : Nat} (hMC : R.cells = MC) (hMS : R.slots = MS) (hk : (tysOf ca)[k]? = some (ca k, .object C)) (hw : Cond.classLink own index C ∈ lwg) (ho : NWs s → va_AO C s) (hbytes : N * 4 ≤ 536870912) (hdg : decode cc pc = .ok (.anewarray index, 3)) : Snd D A nL p l e R s m args below meth c Q KR (i_newq MC MS (ca k) N (pc + 3)) pc := by
  intro K hK c1 sl lv st h hj H locs L ls a1 a2 a3 a4 a5
  subst hMC; subst hMS
  unfold i_newq at hj
  split at hj
  · obtain ⟨g0, g1, g2, g3, hj⟩ := hj
    refine va_newq (C := C) X.1 X.2.1 X.2.2.2.1 (X.hts hw) (ho X.2.2.2.2.2.2.2.2.2.1) X.2.2.2.2.2.2.2.2.1 a2 a3 a4 X.2.2.2.2.2.2.2.2.2.2 g0 g1 hbytes g2 g3 hdg (fun q cA H1 b1 b2 b3 b4 => ?_)
    have hc := ca_ra X hk (tys := []) b1
    subst hc
    have hq := pl_fresh a1 b3
    rw [pl_new a1 hq] at b2 b3
    exact hK _ _ _ _ _ _ (hj q hq) H1 locs (L ++ [q]) ls a1.new b2 b3 b4 a5
  · exact hj.elim
end SNH
