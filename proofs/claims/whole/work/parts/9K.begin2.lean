/-! the beginning: both objects new -/
section
variable {ca : Nat → ClassId} {h H H' : PH} {Q : Nat → Nat}
theorem begin_C (hb : Bk h H Q 146) (hc : CT0 ca H Q) : ∃ g, Inj g ∧ (∀ i, i < 146 → ∃ e, H (g i) = some e) ∧ g 0 = Q 0 ∧ CI ca H g 0 s0 0 0 (fun _ => s0) 0 zF 0 0 0 0 := by
  obtain ⟨g, hg, eg⟩ := blk_ex hb.1
  obtain ⟨c1, c2, c3, ⟨fx, c4, c5⟩, c6, c7, c8, c9, c10, c11, c12, c13, c14, c15, c16, c17, c18⟩ := hc
  refine ⟨g, hg, fun i hi => by rw [eg i hi]; exact hb.2.2.1 i hi, eg 0 (by decide), ⟨?_, ?_, ?_, ⟨fx, ?_, fun i hi => ?_⟩, fun i hi => ?_, by decide, by decide⟩, ⟨?_, ?_, by decide⟩, ⟨?_, ⟨s0, ?_⟩, ⟨fun _ => 0, ?_⟩, ⟨fun _ => 0, ?_⟩, fun _ => 0, ?_⟩, 0, 0, fun _ => 0, fun _ => 0, ⟨zF, ?_, fun j hj => rfl⟩, ⟨zF, ?_⟩, ⟨zF, ?_⟩, ⟨zF, ?_⟩, ?_, Or.inl rfl⟩
  · unfold bN
    rw [eg 0 (by decide), eg (1 + 0) (by decide), eg 23 (by decide), eg 113 (by decide), eg 115 (by decide), eg 141 (by decide)]
    exact c1
  · exact SAt_b (fun i hi => (eg (1 + i) (by omega)).symm) c2
  · rw [eg 23 (by decide), eg 24 (by decide)]
    exact c3
  · rw [eg 24 (by decide)]
    exact c4
  · rw [c5 i hi]
    show some (Q (25 + 22 * i)) = some (g (25 + 22 * i + 0))
    rw [eg (25 + 22 * i + 0) (by omega)]
    rfl
  · exact SAt_b (fun j hj => (eg (25 + 22 * i + j) (by omega)).symm) (c6 i hi)
  · rw [eg 113 (by decide), eg 114 (by decide)]
    exact c7
  · rw [eg 114 (by decide)]
    exact c8
  · unfold tbN
    rw [eg 115 (by decide), eg (116 + 0) (by decide), eg 138 (by decide), eg 139 (by decide), eg 140 (by decide)]
    exact c9
  · exact SAt_b (fun i hi => (eg (116 + i) (by omega)).symm) c10
  · rw [eg 138 (by decide)]
    exact c11
  · rw [eg 139 (by decide)]
    exact c12
  · rw [eg 140 (by decide)]
    exact c13
  · rw [eg 142 (by decide)]
    exact c15
  · rw [eg 143 (by decide)]
    exact c16
  · rw [eg 144 (by decide)]
    exact c17
  · rw [eg 145 (by decide)]
    exact c18
  · rw [eg 141 (by decide), eg 142 (by decide), eg 143 (by decide), eg 144 (by decide), eg 145 (by decide)]
    exact c14
theorem begin_R {g : Nat → Nat} {a : Nat} {e0 : va_E} {s' : Nat → Int32} (hg : Inj g) (he : ∀ i, i < 146 → ∃ e, H (g i) = some e) (hC : CI ca H g 0 s0 0 0 (fun _ => s0) 0 zF 0 0 0 0) (ha : H a = none) (hb : Bk (va_up H a (some e0)) H' Q 11) (hQ : Q 0 = a) (c0 : H' (Q 0) = some (.inr (8, [.ref (Q 1), .ref (Q 2), .ref (Q 3), .int 0, .ref (Q 4), .int 0, .ref (Q 5), .ref (Q 6), .ref (Q 7), .ref (Q 8), .ref (Q 9), .ref (Q 10), .int 0, .int 0, .int 0]))) (c1 : H' (Q 1) = some (.inl (ca 0, 127, .inl s'))) (cs : ∀ j, j < 127 → s' j = s0R j) (c2 : H' (Q 2) = some (.inl (ca 0, 127, .inl (fun _ => 0)))) (c3 : H' (Q 3) = some (.inl (ca 0, 508, .inl (fun _ => 0)))) (c4 : H' (Q 4) = some (.inl (ca 0, 60, .inl (fun _ => 0)))) (c5 : H' (Q 5) = some (.inl (ca 0, 3, .inl (fun _ => 0)))) (c6 : H' (Q 6) = some (.inl (ca 1, 1501, .inr (.inl (fun _ => 0))))) (c7 : H' (Q 7) = some (.inl (ca 0, 1501, .inl (fun _ => 0)))) (c8 : H' (Q 8) = some (.inl (ca 2, 61, .inl (fun _ => 0)))) (c9 : H' (Q 9) = some (.inl (ca 2, 18377, .inl (fun _ => 0)))) (c10 : H' (Q 10) = some (.inl (ca 0, 9, .inl (fun _ => 0)))) : ∃ q, Ap g q ∧ q 0 = a ∧ LW ca H' g q 0 := by
  obtain ⟨q, hq, eq⟩ := blk_ex hb.1
  have ne : ∀ i, i < 146 → ¬ g i = a := fun i hi z => by
    obtain ⟨e, h1⟩ := he i hi
    rw [z, ha] at h1
    cases h1
  have up : ∀ i, i < 146 → va_up H a (some e0) (g i) = H (g i) := fun i hi => va_up_ne _ _ (ne i hi)
  have A : Ap g q := by
    refine ⟨hg, hq, fun i j hi hj z => ?_⟩
    rw [eq j hj] at z
    by_cases j0 : j = 0
    · subst j0
      exact ne i hi (z.trans hQ)
    · obtain ⟨e, h1⟩ := he i hi
      have h2 := hb.2.1 j (by omega) hj
      rw [← z, up i hi, h1] at h2
      cases h2
  have same : ∀ i, i < 146 → H' (g i) = H (g i) := fun i hi => by
    obtain ⟨e, h1⟩ := he i hi
    rw [h1]
    exact hb.2.2.2 _ _ (by rw [hQ]; exact ne i hi) (by rw [up i hi]; exact h1)
  refine ⟨q, A, (eq 0 (by decide)).trans hQ, 0, s0, 0, 0, fun _ => s0, 0, zF, 0, 0, 0, 0, s', fun _ => 0, fun _ => 0, CI_k hC same, ⟨fun _ => 0, 0, 0, 0, fun _ => 0, fun _ => 0, fun _ => 0, fun _ => 0, fun _ => 0, fun _ => 0, ?_, ?_, ?_, ?_, ?_, ?_, ?_, ?_, ?_, ?_, ?_⟩, Or.inl rfl, RB_0 cs, fun i hi => absurd hi (by omega), fun j hj => absurd hj (by omega)⟩
  · unfold eMod qN
    rw [eq 0 (by decide), eq (1 + 0) (by decide), eq (1 + 1) (by decide), eq (1 + 2) (by decide), eq (1 + 3) (by decide), eq (1 + 4) (by decide), eq (1 + 5) (by decide), eq (1 + 6) (by decide), eq (1 + 7) (by decide), eq (1 + 8) (by decide), eq (1 + 9) (by decide)]
    exact c0
  · show H' (q (1 + 0)) = _; rw [eq (1 + 0) (by decide)]; exact c1
  · show H' (q (1 + 1)) = _; rw [eq (1 + 1) (by decide)]; exact c2
  · show H' (q (1 + 2)) = _; rw [eq (1 + 2) (by decide)]; exact c3
  · show H' (q (1 + 3)) = _; rw [eq (1 + 3) (by decide)]; exact c4
  · show H' (q (1 + 4)) = _; rw [eq (1 + 4) (by decide)]; exact c5
  · show H' (q (1 + 5)) = _; rw [eq (1 + 5) (by decide)]; exact c6
  · show H' (q (1 + 6)) = _; rw [eq (1 + 6) (by decide)]; exact c7
  · show H' (q (1 + 7)) = _; rw [eq (1 + 7) (by decide)]; exact c8
  · show H' (q (1 + 8)) = _; rw [eq (1 + 8) (by decide)]; exact c9
  · show H' (q (1 + 9)) = _; rw [eq (1 + 9) (by decide)]; exact c10
end
