/-! the JDK's own: max, min, abs, arraycopy, Object's constructor -/
section SNJ
variable {D : va_G} {ca : Nat → ClassId} {A : Nat → Prop} {nL : Nat} {p : Program} {l : Launch} {e : Env} {R : Room} {s : State} {m : MethodId} {args : Array Value} {below : List Frame} {meth : Method} {c : Code} {Q : State → Prop} {own nm : String} {cc : ByteArray} {ret : Option FieldType} {KR : RT} {pc mc ms MC MS : Nat}
theorem snd_mmax (X : Ax D ca A nL own nm cc ret p s m args meth c) {index : Nat} (hMC : R.cells = MC) (hMS : R.slots = MS) (w1 : Cond.methodLink own index Lib.Math.max.name ∈ lwg) (w2 : Cond.static Lib.Math.max.name ∈ lwg) (w3 : Cond.initialized "java/lang/Math" ∈ lwg) (w4 : Cond.code Lib.Math.max.name Lib.Math.max.code 2 (some .int) ∈ lwg) (hf : 1 ≤ R.frames) (hl : 8 + 13 ≤ R.locals) (hdg : decode cc pc = .ok (.invokestatic index, 3)) : Snd D A nL p l e R s m args below meth c Q KR (i_m2 (fun x y => if x < y then y else x) MC MS (pc + 3)) pc := by
  intro K hK c1 sl lv st h hj H locs L ls a1 a2 a3 a4 a5
  subst hMC; subst hMS
  unfold i_m2 at hj
  split at hj
  · obtain ⟨g0, g1, g2, hj⟩ := hj
    exact va_mmax X.1 X.2.1 (X.2.2.1.trans a5.1.symm) X.2.2.2.1 (X.hts w1) (X.hts w2) (X.hts w3) (X.hts w4) hf (by rw [catS_eq]; omega) g1 g2 hdg (hK _ _ _ _ _ _ hj H locs L ls a1 a2 a3 a4 a5)
  · exact hj.elim
theorem snd_mmin (X : Ax D ca A nL own nm cc ret p s m args meth c) {index : Nat} (hMC : R.cells = MC) (hMS : R.slots = MS) (w1 : Cond.methodLink own index Lib.Math.min.name ∈ lwg) (w2 : Cond.static Lib.Math.min.name ∈ lwg) (w3 : Cond.initialized "java/lang/Math" ∈ lwg) (w4 : Cond.code Lib.Math.min.name Lib.Math.min.code 2 (some .int) ∈ lwg) (hf : 1 ≤ R.frames) (hl : 8 + 13 ≤ R.locals) (hdg : decode cc pc = .ok (.invokestatic index, 3)) : Snd D A nL p l e R s m args below meth c Q KR (i_m2 (fun x y => if y < x then y else x) MC MS (pc + 3)) pc := by
  intro K hK c1 sl lv st h hj H locs L ls a1 a2 a3 a4 a5
  subst hMC; subst hMS
  unfold i_m2 at hj
  split at hj
  · obtain ⟨g0, g1, g2, hj⟩ := hj
    exact va_mmin X.1 X.2.1 (X.2.2.1.trans a5.1.symm) X.2.2.2.1 (X.hts w1) (X.hts w2) (X.hts w3) (X.hts w4) hf (by rw [catS_eq]; omega) g1 g2 hdg (hK _ _ _ _ _ _ hj H locs L ls a1 a2 a3 a4 a5)
  · exact hj.elim
theorem snd_mabs (X : Ax D ca A nL own nm cc ret p s m args meth c) {index : Nat} (hMC : R.cells = MC) (hMS : R.slots = MS) (w1 : Cond.methodLink own index Lib.Math.abs.name ∈ lwg) (w2 : Cond.static Lib.Math.abs.name ∈ lwg) (w3 : Cond.initialized "java/lang/Math" ∈ lwg) (w4 : Cond.code Lib.Math.abs.name Lib.Math.abs.code 1 (some .int) ∈ lwg) (hf : 1 ≤ R.frames) (hl : 8 + 13 ≤ R.locals) (hdg : decode cc pc = .ok (.invokestatic index, 3)) : Snd D A nL p l e R s m args below meth c Q KR (i_m1 (fun x => if 0 ≤ x then x else 0 - x) MC MS (pc + 3)) pc := by
  intro K hK c1 sl lv st h hj H locs L ls a1 a2 a3 a4 a5
  subst hMC; subst hMS
  unfold i_m1 at hj
  split at hj
  · obtain ⟨g0, g1, g2, hj⟩ := hj
    exact va_mabs X.1 X.2.1 (X.2.2.1.trans a5.1.symm) X.2.2.2.1 (X.hts w1) (X.hts w2) (X.hts w3) (X.hts w4) hf (by rw [catS_eq]; omega) g1 g2 hdg (hK _ _ _ _ _ _ hj H locs L ls a1 a2 a3 a4 a5)
  · exact hj.elim
theorem snd_acopy (X : Ax D ca A nL own nm cc ret p s m args meth c) {index : Nat} (w1 : Cond.methodLink own index arraycopyName ∈ lwg) (w2 : Cond.native arraycopyName ∈ lwg) (w3 : Cond.static arraycopyName ∈ lwg) (w4 : Cond.initialized "java/lang/System" ∈ lwg) (hf : 1 ≤ R.frames) (hl : 8 + (nativeFrameWords "java/lang/System" "arraycopy" 5 + 11) ≤ R.locals) (hdg : decode cc pc = .ok (.invokestatic index, 3)) : Snd D A nL p l e R s m args below meth c Q KR (i_acopy (ca 0) (pc + 3)) pc := by
  intro K hK c1 sl lv st h hj H locs L ls a1 a2 a3 a4 a5
  unfold i_acopy at hj
  split at hj
  · split at hj
    · rename_i c0 n0 f h0
      split at hj
      · rename_i c1 n1 g h1
        obtain ⟨g0, rfl, rfl, g1, g2, g3, g4, g5, hj⟩ := hj
        obtain ⟨q0, hq0⟩ := pl_at a1 h0
        obtain ⟨q1, hq1⟩ := pl_at a1 h1
        refine va_copyi (ty := .int) X.1 X.2.1 (X.2.2.1.trans a5.1.symm) X.2.2.2.1 (X.hts w1) (X.hts w2) (X.hts w3) (X.hts w4) X.2.2.2.2.2.2.2.2.1 a2 a3 a4 q0 q1 0 0 hq0 hq1 rfl rfl rfl g1 g2 g3 g4 g5 (fun _ _ => rfl) hf (by rw [catS_eq]; omega) hdg (fun H1 locs1 b2 b3 b4 => ?_)
        rw [pl_set a1 a3 h1 hq1] at b2 b3
        exact hK _ _ _ _ _ _ hj H1 locs1 L ls (a1.up h1) b2 b3 b4 a5
      · exact hj.elim
    · exact hj.elim
  · exact hj.elim
theorem snd_oinit (X : Ax D ca A nL own nm cc ret p s m args meth c) {index : Nat} (w1 : Cond.methodLink own index objectInit ∈ lwg) (w2 : Cond.instanceMethod objectInit ∈ lwg) (w3 : Cond.code objectInit ⟨#[0xb1]⟩ 1 none ∈ lwg) (hf : 1 ≤ R.frames) (hl : 8 + 12 ≤ R.locals) (hdg : decode cc pc = .ok (.invokespecial index, 3)) : Snd D A nL p l e R s m args below meth c Q KR (i_oinit (pc + 3)) pc := by
  intro K hK c1 sl lv st h hj H locs L ls a1 a2 a3 a4 a5
  unfold i_oinit at hj
  split at hj
  · rename_i a st'
    obtain ⟨g0, hj⟩ := hj
    refine W.objInit X.1 X.2.1 X.2.2.2.1 (X.hts w1) (X.hts w2) (X.hts w3) rfl (by rw [X.2.2.1]; exact a5.1) rfl hdg hf (by rw [catS_eq]; show 2 * 0 + _ + 12 ≤ _; omega) ?_
    exact W.eq (g2 := F0 m (pc + 3) ls st') rfl (hK _ _ _ _ _ _ hj H locs L ls a1 a2 a3 a4 a5)
  · exact hj.elim
end SNJ
