/-! cells of a block as an injection; the rows at the beginning -/
def mxQ (Q : Nat → Nat) : Nat → Nat
  | 0 => 0
  | n + 1 => if mxQ Q n ≤ Q n then Q n + 1 else mxQ Q n
theorem mxQ_lt {Q : Nat → Nat} : ∀ {n i : Nat}, i < n → Q i < mxQ Q n
  | 0, _, h => absurd h (by omega)
  | n + 1, i, h => by
    unfold mxQ
    by_cases e : i = n
    · subst e
      split <;> omega
    · have l := mxQ_lt (Q := Q) (n := n) (i := i) (by omega)
      split <;> omega
theorem blk_ex {Q : Nat → Nat} {n : Nat} (h : ∀ i j, i < n → j < n → Q i = Q j → i = j) : ∃ g, Inj g ∧ ∀ i, i < n → g i = Q i := by
  refine ⟨fun i => if i < n then Q i else mxQ Q n + i, fun i j => ⟨fun e => ?_, fun e => by rw [e]⟩, fun i hi => if_pos hi⟩
  have e' : (if i < n then Q i else mxQ Q n + i) = if j < n then Q j else mxQ Q n + j := e
  by_cases p : i < n
  · rw [if_pos p] at e'
    by_cases q : j < n
    · rw [if_pos q] at e'
      exact h i j p q e'
    · rw [if_neg q] at e'
      have l := mxQ_lt (Q := Q) p
      omega
  · rw [if_neg p] at e'
    by_cases q : j < n
    · rw [if_pos q] at e'
      have l := mxQ_lt (Q := Q) q
      omega
    · rw [if_neg q] at e'
      omega
theorem s0_eq : ∀ j, j < 127 → ¬ (j = 111 ∨ j = 112 ∨ j = 118 ∨ j = 119 ∨ j = 125 ∨ j = 126) → s0 j = s0R j := by decide +kernel
theorem s0_gl : ∀ k, k < 3 → s0 (111 + 7 * k) = -500 ∧ s0 (112 + 7 * k) = 1500 := by decide +kernel
theorem s0_pc : ∀ k, k < 3 → s0 (10 + 32 * k) = 0 := by decide +kernel
theorem s0_wf : Wf s0 := by
  unfold Wf
  decide +kernel
theorem RB_0 {R : Nat → Int32} (e : ∀ j, j < 127 → R j = s0R j) : RB 0 s0 R := by
  refine ⟨⟨fun j hj _ => (s0_eq j (by omega) (by omega)).trans (e j (by omega)).symm, fun k hk i hi => (s0_eq _ (by omega) (by omega)).trans (e _ (by omega)).symm, fun k hk i hi => ?_, fun k hk i hi => (s0_eq _ (by omega) (by omega)).trans (e _ (by omega)).symm, fun k hk => ⟨fun _ => s0_gl k hk, fun z => absurd (show s0 9 = 0 by decide +kernel) z⟩⟩, (s0_eq 6 (by decide) (by decide)).trans (e 6 (by decide)).symm, s0_wf, 0, Nat.le_refl _, by decide +kernel⟩
  rw [s0_pc k hk, tn0] at hi
  omega

