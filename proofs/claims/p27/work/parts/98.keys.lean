/-! (the kit's rows to paste) long numbers: shifts, disjoint parts -/
/-! a state of the loop as one number: the class's and the reference's -/
section
variable {s : Nat → Int32} {k V w a p : Nat}
def wN (s : Nat → Int32) (k : Nat) : Nat := ((s (106 + 7 * k)).toInt + 500).toNat
def aN (s : Nat → Int32) (k : Nat) : Nat := (s (14 + 32 * k)).toInt.toNat
def pN (s : Nat → Int32) (k : Nat) : Nat := (s (15 + 32 * k)).toInt.toNat
theorem Wf.sg (W : Wf s) (hk : k < 3) : wN s k ≤ 2000 ∧ aN s k ≤ 1 ∧ pN s k ≤ 5 ∧ s (106 + 7 * k) = zI ((wN s k : Int) - 500) ∧ s (14 + 32 * k) = nI (aN s k) ∧ s (15 + 32 * k) = nI (pN s k) := by
  have z1 := isIn_z.mp (W.wm hk)
  have h2 := W.S hk (i := 4) (by decide)
  have h3 := W.S hk (i := 5) (by decide)
  rw [show 10 + 32 * k + 4 = 14 + 32 * k by omega] at h2
  rw [show 10 + 32 * k + 5 = 15 + 32 * k by omega] at h3
  obtain ⟨x, hx, ex⟩ := isIn0 (B := 1) rfl h2
  obtain ⟨y, hy, ey⟩ := isIn0 (B := 5) rfl h3
  have c1 : (-500 : Int32).toInt = -500 := rfl
  have c2 : (1500 : Int32).toInt = 1500 := rfl
  have ax : aN s k = x := by unfold aN; rw [ex, nI_toInt (by omega)]; rfl
  have py : pN s k = y := by unfold pN; rw [ey, nI_toInt (by omega)]; rfl
  have ww : (wN s k : Int) = (s (106 + 7 * k)).toInt + 500 := Int.toNat_of_nonneg (by omega)
  refine ⟨by omega, by omega, by omega, ?_, by rw [ax]; exact ex, by rw [py]; exact ey⟩
  rw [ww, Int.add_sub_cancel]
  exact zI_of _
end
/-- the same state of the loop -/
def SgE (s t : Nat → Int32) : Prop := ∀ k, k < 3 → wN s k = wN t k ∧ aN s k = aN t k ∧ pN s k = pN t k

