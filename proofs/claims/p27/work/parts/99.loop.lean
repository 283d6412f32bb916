/-! the loop: the class's first return and the reference's search from the end tell the same -/
def CstE (s t : Nat → Int32) : Prop := (∀ k, k < 3 → s (11 + 32 * k) = t (11 + 32 * k) ∧ s (12 + 32 * k) = t (12 + 32 * k) ∧ s (13 + 32 * k) = t (13 + 32 * k) ∧ s (17 + 32 * k) = t (17 + 32 * k) ∧ s (107 + 7 * k) = t (107 + 7 * k) ∧ s (108 + 7 * k) = t (108 + 7 * k) ∧ s (109 + 7 * k) = t (109 + 7 * k)) ∧ s 6 = t 6 ∧ s 7 = t 7 ∧ s 8 = t 8
def SgV (s t : Nat → Int32) : Prop := ∀ k, k < 3 → s (106 + 7 * k) = t (106 + 7 * k) ∧ s (14 + 32 * k) = t (14 + 32 * k) ∧ s (15 + 32 * k) = t (15 + 32 * k)
section
variable {s t u r C R : Nat → Int32} {k B : Nat}
theorem CstE.tr (h : CstE s t) (h' : CstE t u) : CstE s u := ⟨fun k hk => by
  obtain ⟨a, b, c, d, e, f, g⟩ := h.1 k hk
  obtain ⟨a', b', c', d', e', f', g'⟩ := h'.1 k hk
  exact ⟨a.trans a', b.trans b', c.trans c', d.trans d', e.trans e', f.trans f', g.trans g'⟩, h.2.1.trans h'.2.1, h.2.2.1.trans h'.2.2.1, h.2.2.2.trans h'.2.2.2⟩
theorem SgV.e (h : SgV s t) : SgE s t := by
  intro k hk
  unfold wN aN pN
  rw [(h k hk).1, (h k hk).2.1, (h k hk).2.2]
  exact ⟨rfl, rfl, rfl⟩
theorem SgE.v (W : Wf s) (W' : Wf t) (h : SgE s t) : SgV s t := by
  intro k hk
  obtain ⟨-, -, -, a, b, c⟩ := W.sg hk
  obtain ⟨-, -, -, a', b', c'⟩ := W'.sg hk
  rw [a, b, c, a', b', c', (h k hk).1, (h k hk).2.1, (h k hk).2.2]
  exact ⟨rfl, rfl, rfl⟩
theorem Rl.sg (H : Rl C R) : sgS C = sgS R := by
  unfold sgS sgK
  rw [H.rmj (k := 0) (by decide) (j := 106 + 7 * 0) (by decide) (by decide), H.rmj (k := 1) (by decide) (j := 106 + 7 * 1) (by decide) (by decide), H.rmj (k := 2) (by decide) (j := 106 + 7 * 2) (by decide) (by decide), H.stj (k := 0) (by decide) (j := 14 + 32 * 0) (by decide) (by decide), H.stj (k := 1) (by decide) (j := 14 + 32 * 1) (by decide) (by decide), H.stj (k := 2) (by decide) (j := 14 + 32 * 2) (by decide) (by decide), H.stj (k := 0) (by decide) (j := 15 + 32 * 0) (by decide) (by decide), H.stj (k := 1) (by decide) (j := 15 + 32 * 1) (by decide) (by decide), H.stj (k := 2) (by decide) (j := 15 + 32 * 2) (by decide) (by decide)]
end

