/-! the classes; a table as a list -/
theorem Fk0 : FC 0 RX0 TX0 3 tyX0 := ⟨rfl, by decide +kernel, tyX0_ok, nmX0⟩
theorem Fk1 : FC 1 RX1 TX1 8 tyX1 := ⟨rfl, by decide +kernel, tyX1_ok, nmX1⟩
theorem Fk2 : FC 2 RX2 TX2 7 tyX2 := ⟨rfl, by decide +kernel, tyX2_ok, nmX2⟩
theorem Fk3 : FC 3 RX3 TX3 6 tyX3 := ⟨rfl, by decide +kernel, tyX3_ok, nmX3⟩
theorem Fk4 : FC 4 RX4 TX4 8 tyX4 := ⟨rfl, by decide +kernel, tyX4_ok, nmX4⟩
theorem Fk5 : FC 5 RX5 TX5 11 tyX5 := ⟨rfl, by decide +kernel, tyX5_ok, nmX5⟩
theorem Fk6 : FC 6 RX6 TX6 2 tyX6 := ⟨rfl, by decide +kernel, tyX6_ok, nmX6⟩
theorem Fk7 : FC 7 RX7 TX7 6 tyX7 := ⟨rfl, by decide +kernel, tyX7_ok, nmX7⟩
/-! a table as a list -/
def i_no : IT := fun _ _ _ _ _ _ _ _ => False
def lk (pc : Nat) : List (Nat × IT) → IT
  | [] => i_no
  | (n, i) :: r => if pc = n then i else lk pc r
section LK
variable {D : va_G} {A : Nat → Prop} {nL : Nat} {p : Program} {l : Launch} {e : Env} {R : Room} {s : State} {m : MethodId} {args : Array Value} {below : List Frame} {meth : Method} {c : Code} {Q : State → Prop} {KR : RT}
theorem snd_nil : ∀ pc, Snd D A nL p l e R s m args below meth c Q KR (lk pc []) pc := fun _ _ _ _ _ _ _ _ h => h.elim
theorem snd_cons {n : Nat} {i : IT} {r : List (Nat × IT)} (h : Snd D A nL p l e R s m args below meth c Q KR i n) (hr : ∀ pc, Snd D A nL p l e R s m args below meth c Q KR (lk pc r) pc) : ∀ pc, Snd D A nL p l e R s m args below meth c Q KR (lk pc ((n, i) :: r)) pc := by
  intro pc
  unfold lk
  by_cases q : pc = n
  · subst q; rw [if_pos rfl]; exact h
  · rw [if_neg q]; exact hr pc
end LK
