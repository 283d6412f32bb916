/-! the beginning: both objects new -/
section
variable {ca : Nat → ClassId} {h H H' : PH} {Q : Nat → Nat}
theorem begin_C (hb : Bk h H Q 146) (hc : CT0 ca H Q) : ∃ g, Inj g ∧ (∀ i, i < 146 → ∃ e, H (g i) = some e) ∧ g 0 = Q 0 ∧ CI ca H g 0 s0 0 0 (fun _ => s0) 0 zF 0 0 0 0 := by
  obtain ⟨g, hg, eg⟩ := blk_ex hb.1
  obtain ⟨c1, c2, c3, ⟨fx, c4, c5⟩, c6, c7, c8, c9, c10, c11, c12, c13, c14, c15, c16, c17, c18⟩ := hc
  refine ⟨g, hg, fun i hi => by rw [eg i hi]; exact hb.2.2.1 i hi, eg 0 (by decide), ⟨?_, ?_, ?_, ⟨fx, ?_, fun i hi => ?_⟩, fun i hi => ?_, by decide, by decide⟩, ⟨?_, ?_, by decide⟩, ⟨?_, ⟨s0, ?_⟩, ⟨fun _ => 0, ?_⟩, ⟨fun _ => 0, ?_⟩, fun _ => 0, ?_⟩, 0, 0, fun _ => 0, fun _ => 0, ⟨zF, ?_, fun j hj => rfl⟩, ⟨zF, ?_⟩, ⟨zF, ?_⟩, ⟨zF, ?_⟩, ?_, Or.inl rfl⟩
  · unfold bN
    rw [eg 0 (by decide), eg (1 + 0) (by decide), eg 23 (by decide), eg 113 (by decide), eg 115 (by decide), eg 141 (by decide)]
    exact c1
  · exact SAt_b (fun i hi => (eg (1 + i) (by omega)).symm) c2
  · rw [eg 23 (by decide), eg 24 (by decide)]
    exact c3
  · rw [eg 24 (by decide)]
    exact c4
  · rw [c5 i hi]
    show some (Q (25 + 22 * i)) = some (g (25 + 22 * i + 0))
    rw [eg (25 + 22 * i + 0) (by omega)]
    rfl
  · exact SAt_b (fun j hj => (eg (25 + 22 * i + j) (by omega)).symm) (c6 i hi)
  · rw [eg 113 (by decide), eg 114 (by decide)]
    exact c7
  · rw [eg 114 (by decide)]
    exact c8
  · unfold tbN
    rw [eg 115 (by decide), eg (116 + 0) (by decide), eg 138 (by decide), eg 139 (by decide), eg 140 (by decide)]
    exact c9
  · exact SAt_b (fun i hi => (eg (116 + i) (by omega)).symm) c10
  · rw [eg 138 (by decide)]
    exact c11
  · rw [eg 139 (by decide)]
    exact c12
  · rw [eg 140 (by decide)]
    exact c13
  · rw [eg 142 (by decide)]
    exact c15
  · rw [eg 143 (by decide)]
    exact c16
  · rw [eg 144 (by decide)]
    exact c17
  · rw [eg 145 (by decide)]
    exact c18
  · rw [eg 141 (by decide), eg 142 (by decide), eg 143 (by decide), eg 144 (by decide), eg 145 (by decide)]
    exact c14
end
