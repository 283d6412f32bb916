/-! the walk, with an opaque stepper: no unfolding of it by the kernel -/
theorem wpS_a {tab : Nat → IT} {stops : Nat → Bool} {K : KT} {R : RT} {n c sl pc : Nat} {lv : LV} {st : List Value} {h : PH} : wpS tab stops K R (n + 1) c sl pc lv st h = if stops pc = true then K c sl pc lv st h else tab pc (wpS tab stops K R n) R c sl pc lv st h := by
  have e : wpS tab stops K R (n + 1) = fun c sl pc lv st h => if stops pc = true then K c sl pc lv st h else tab pc (wpS tab stops K R n) R c sl pc lv st h := by rw [wpS]
  rw [e]
theorem wpS_z {tab : Nat → IT} {stops : Nat → Bool} {K : KT} {R : RT} {c sl pc : Nat} {lv : LV} {st : List Value} {h : PH} : wpS tab stops K R 0 c sl pc lv st h = K c sl pc lv st h := by
  have e : wpS tab stops K R 0 = K := by rw [wpS]
  rw [e]
theorem goN {tab : Nat → IT} {K : KT} {R : RT} (go : ∀ stops n c sl pc lv st h, tab pc (wpS tab stops K R n) R c sl pc lv st h → K c sl pc lv st h) (stops : Nat → Bool) (n c sl pc : Nat) (lv : LV) (st : List Value) (h : PH)
    (k : ∀ F : Nat → KT, (∀ n c sl pc lv st h, F (n + 1) c sl pc lv st h = if stops pc = true then K c sl pc lv st h else tab pc (F n) R c sl pc lv st h) → (∀ c sl pc lv st h, F 0 c sl pc lv st h = K c sl pc lv st h) → tab pc (F n) R c sl pc lv st h) : K c sl pc lv st h :=
  go stops n c sl pc lv st h (k (wpS tab stops K R) (fun _ _ _ _ _ _ _ => wpS_a) (fun _ _ _ _ _ _ => wpS_z))
