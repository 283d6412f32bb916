/-! stacks: the answers of both sides -/
section
variable {R : Nat → Int32} {Nf : Nat → Nat}
theorem cS_z (hN : Nm Nf) (hR : ∀ j, j < 6 → R j = nI (Nf j)) {P T : Nat} {b : Int} (hP : P ≤ 3) (hT : T ≤ 27) (hb : -900 ≤ b ∧ b ≤ 900) : cS R P T (zI b) = true ↔ canZ Nf P T b := by
  unfold cS
  rw [zI_n]
  exact cb_z hN hR hP ⟨by omega, by omega⟩ ⟨by omega, by omega⟩
theorem cS_f (hN : Nm Nf) (hR : ∀ j, j < 6 → R j = nI (Nf j)) {P T : Nat} {b : Int} (hP : P ≤ 3) (hT : T ≤ 27) (hb : -900 ≤ b ∧ b ≤ 900) : cS R P T (zI b) = false ↔ ¬ canZ Nf P T b := by
  rw [← cS_z hN hR hP hT hb]
  cases cS R P T (zI b) <;> decide
theorem can_no (hN : Nm Nf) {P : Nat} {b : Int} (h : ∀ T : Nat, P ≤ T → T ≤ 9 * P → ¬ canZ Nf P T b) (T : Int) : ¬ canZ Nf P T b := by
  intro z
  have bd := canZ_bd hN z
  have e : ((T.toNat : Nat) : Int) = T := Int.toNat_of_nonneg (by omega)
  exact h T.toNat (by omega) (by omega) (by rw [e]; exact z)
theorem StkNo_z (hN : Nm Nf) (hR : ∀ j, j < 6 → R j = nI (Nf j)) {b : Int} (hb : -900 ≤ b ∧ b ≤ 900) : StkNo R (zI b) ↔ ∀ P T, P ≤ 3 → ¬ canZ Nf P T b := by
  refine ⟨fun h P T hP => can_no hN (fun T h1 h2 => (cS_f hN hR hP (by omega) hb).mp (h P T hP h1 h2)) T, fun h P T hP h1 h2 => (cS_f hN hR hP (by omega) hb).mpr (h P T hP)⟩
theorem StkAt_z (hN : Nm Nf) (hR : ∀ j, j < 6 → R j = nI (Nf j)) {b : Int} (hb : -900 ≤ b ∧ b ≤ 900) {P T : Nat} {kk : Nat → Nat} (h : StkAt R (zI b) P T) (hr : RowC R P T (zI b) kk) : StkZ Nf P T b kk := by
  obtain ⟨h1, h2, h3, h4, h5, h6⟩ := h
  refine ⟨h1, (cS_z hN hR h1 (by omega) hb).mp h4, fun P' T' hP => can_no hN (fun T a c => (cS_f hN hR (by omega) (by omega) hb).mp (h5 P' T hP a c)) T', fun T' hT z => ?_, RowC_z hN hR h1 (by omega) hb hr⟩
  have bd := canZ_bd hN z
  have e : ((T'.toNat : Nat) : Int) = T' := Int.toNat_of_nonneg (by omega)
  rw [← e] at z
  exact (cS_f hN hR h1 (by omega) hb).mp (h6 T'.toNat (by omega) (by omega)) z
theorem StkZ_c (hN : Nm Nf) (hR : ∀ j, j < 6 → R j = nI (Nf j)) {b : Int} (hb : -900 ≤ b ∧ b ≤ 900) {P : Nat} {T : Int} {kk : Nat → Nat} (h : StkZ Nf P T b kk) : StkAt R (zI b) P T.toNat ∧ RowC R P T.toNat (zI b) kk := by
  obtain ⟨h1, h2, h3, h4, LT, RS, h5⟩ := h
  have bd := canZ_bd hN h2
  have e : ((T.toNat : Nat) : Int) = T := Int.toNat_of_nonneg (by omega)
  rw [← e] at h2 h5 h4
  refine ⟨⟨h1, by omega, by omega, (cS_z hN hR h1 (by omega) hb).mpr h2, fun P' T' a c d => (cS_f hN hR (by omega) (by omega) hb).mpr (h3 P' T' a), fun T' a c => (cS_f hN hR h1 (by omega) hb).mpr (h4 T' (by omega))⟩, RowZ_c hN hR h1 (by omega) hb h5⟩
theorem RowZ_u {P : Nat} {T b : Int} {kk kk' : Nat → Nat} {LT RS LT' RS' : Nat → Int} (h : RowZ Nf P T b kk LT RS) (h' : RowZ Nf P T b kk' LT' RS') : ∀ n, n ≤ P → LT n = LT' n ∧ RS n = RS' n ∧ ∀ c, c < n → kk c = kk' c := by
  intro n
  induction n with
  | zero => intro _; exact ⟨h.1.trans h'.1.symm, h.2.1.trans h'.2.1.symm, fun c hc => absurd hc (by omega)⟩
  | succ n ih =>
    intro hn
    obtain ⟨a1, a2, a3⟩ := ih (by omega)
    obtain ⟨b1, b2, b3, b4, b5⟩ := h.2.2 n (by omega)
    obtain ⟨c1, c2, c3, c4, c5⟩ := h'.2.2 n (by omega)
    rw [← a1, ← a2] at c2 c3
    have e : kk n = kk' n := by
      by_cases q : kk n < kk' n
      · exact absurd b2 (c3 _ q)
      · by_cases q2 : kk' n < kk n
        · exact absurd c2 (b3 _ q2)
        · omega
    refine ⟨by rw [b4, c4, a1, e], by rw [b5, c5, a2, e], fun c hc => ?_⟩
    by_cases q : c = n
    · rw [q]; exact e
    · exact a3 c (by omega)
theorem StkZ_u {P P' : Nat} {T T' b : Int} {kk kk' : Nat → Nat} (h : StkZ Nf P T b kk) (h' : StkZ Nf P' T' b kk') : P = P' ∧ ∀ n, n < P → kk n = kk' n := by
  obtain ⟨h1, h2, h3, h4, LT, RS, h5⟩ := h
  obtain ⟨g1, g2, g3, g4, LT', RS', g5⟩ := h'
  have e : P = P' := by
    by_cases q : P < P'
    · exact absurd h2 (g3 P T q)
    · by_cases q2 : P' < P
      · exact absurd g2 (h3 P' T' q2)
      · omega
  subst e
  have eT : T = T' := by
    by_cases q : T < T'
    · exact absurd h2 (g4 T q)
    · by_cases q2 : T' < T
      · exact absurd g2 (h4 T' q2)
      · omega
  subst eT
  exact ⟨rfl, (RowZ_u h5 g5 P (Nat.le_refl _)).2.2⟩
theorem stA_u {P : Nat} {kk kk' : Nat → Nat} (hP : P ≤ 3) (h : ∀ n, n < P → kk n = kk' n) (i w : Int32) : stA P kk i w = stA P kk' i w := by
  unfold stA
  by_cases q : i < nI P
  · rw [if_pos q, if_pos q]
    by_cases q2 : i < 0
    · rw [if_pos q2, if_pos q2]
    · rw [if_neg q2, if_neg q2]
      obtain ⟨I, hI, rfl⟩ := nI_of q2
      rw [nI_ltI hI (by omega)] at q
      rw [nI_clamp hI]
      unfold stV
      rw [h I q]
  · rw [if_neg q, if_neg q]
/-- one answer for both sides, at hand -/
def StkRes (Nf : Nat → Nat) (b : Int) (i w x : Int32) : Prop := ((∀ P T, P ≤ 3 → ¬ canZ Nf P T b) ∧ x = -10000004) ∨ ∃ P T kk, StkZ Nf P T b kk ∧ x = stA P kk i w
theorem StkRes_u {b : Int} {i w x y : Int32} (h : StkRes Nf b i w x) (h' : StkRes Nf b i w y) : x = y := by
  rcases h with ⟨n, rfl⟩ | ⟨P, T, kk, z, rfl⟩
  · rcases h' with ⟨_, rfl⟩ | ⟨P, T, kk, z, rfl⟩
    · rfl
    · exact absurd z.2.1 (n P T z.1)
  · rcases h' with ⟨n, rfl⟩ | ⟨P', T', kk', z', rfl⟩
    · exact absurd z.2.1 (n P T z.1)
    · obtain ⟨rfl, e⟩ := StkZ_u z z'
      exact stA_u z.1 e i w
theorem StkRes_ex (hN : Nm Nf) (b : Int) : (∀ P T, P ≤ 3 → ¬ canZ Nf P T b) ∨ ∃ P T kk, StkZ Nf P T b kk := by
  have step : ∀ n, n ≤ 4 → (∀ P T, P < n → ¬ canZ Nf P T b) ∨ ∃ P T kk, StkZ Nf P T b kk := by
    intro n
    induction n with
    | zero => intro _; exact Or.inl (fun P T h => absurd h (by omega))
    | succ n ih =>
      intro hn
      rcases ih (by omega) with h | h
      · by_cases q : ∃ T, canZ Nf n T b
        · obtain ⟨T, hT⟩ := q
          obtain ⟨T', kk, z⟩ := StkZ_ex hN (by omega) hT (fun P' T' hP => h P' T' hP)
          exact Or.inr ⟨n, T', kk, z⟩
        · refine Or.inl (fun P T hP z => ?_)
          by_cases e : P = n
          · subst e; exact q ⟨T, z⟩
          · exact h P T (by omega) z
      · exact Or.inr h
  rcases step 4 (by omega) with h | h
  · exact Or.inl (fun P T hP => h P T (by omega))
  · exact Or.inr h
end
