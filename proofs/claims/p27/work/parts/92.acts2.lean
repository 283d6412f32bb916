/-! acts: heat, contact, opening, part, cut, bounds, tick -/
section
variable {C R R' : Nat → Int32} {B B' k i j : Nat} {v : Int32}
theorem RB.rmu (H : RB B C R) (hk : k < 3) (hi : i < 5) (hv : isIn v (rgR i).1 (rgR i).2 = true) : RB B (upd C (106 + 7 * k + i) v) (upd R (106 + 7 * k + i) v) := H.up1 (by omega) (fun k hk => by omega) (fun k hk => ⟨by omega, by omega⟩) (by rw [rg_R (by omega)]; exact hv)
theorem RB.stu (H : RB B C R) (hk : k < 3) (h0 : 0 < i) (hi : i < 8) (hv : isIn v (rgS i).1 (rgS i).2 = true) : RB B (upd C (10 + 32 * k + i) v) (upd R (10 + 32 * k + i) v) := H.up1 (by omega) (fun k hk => by omega) (fun k hk => ⟨by omega, by omega⟩) (by rw [rg_S hk (by omega)]; exact hv)
theorem act_heat (H : RB B C R) (x y z : Int32) : ActOk B (vHeat x y z) (aHeat C x y z) (fHeat C x y z) (aHeat R x y z) (fHeat R x y z) := by
  unfold vHeat aHeat
  cases h : isIn x 0 2 with
  | false => exact .no rfl (by rw [if_neg (by decide), if_neg (by decide)]) (by rw [if_neg (by decide)]; exact inv_le)
  | true =>
    rw [if_pos rfl, if_pos rfl, Bool.true_and]
    cases h2 : isIn y 0 99 with
    | false => exact .no rfl (by rw [if_neg (by decide), if_neg (by decide)]) (by rw [if_neg (by decide)]; exact inv_le)
    | true =>
      rw [if_pos rfl, if_pos rfl, Bool.true_and]
      cases h3 : isIn z 1 99 with
      | false => exact .no rfl (by rw [if_neg (by decide), if_neg (by decide)]) (by rw [if_neg (by decide)]; exact inv_le)
      | true =>
        have hk := kOf h
        have e1 := H.1.rmj hk (j := 106 + 7 * x.toNatClampNeg + 1) (by omega) (by omega)
        have e2 := H.1.rmj hk (j := 106 + 7 * x.toNatClampNeg + 2) (by omega) (by omega)
        obtain ⟨P, hP, eP⟩ := isIn0 (B := 99) rfl (H.2.2.1.R hk (i := 1) (by decide))
        obtain ⟨D, hD, eD⟩ := isIn1 (B := 99) (a := 1) (by decide) rfl (H.2.2.1.R hk (i := 2) (by decide))
        rw [if_pos rfl, if_pos rfl]
        refine .yes rfl (by rw [e1, e2]) ?_ ?_
        · rw [← e1, ← e2, eP, eD, show (100 : Int32) = zI 100 from rfl, zI_n, zI_n, zI_mul, zI_add]
          exact zI_big (by omega) (by omega)
        · unfold fHeat
          exact (H.rmu hk (i := 1) (by decide) h2).rmu hk (i := 2) (by decide) h3
theorem act_contact (H : RB B C R) (x y : Int32) : ActOk B (vContact x y) (aContact C x y) (upd C (10 + 32 * x.toNatClampNeg + 7) y) (aContact R x y) (upd R (10 + 32 * x.toNatClampNeg + 7) y) := by
  unfold vContact aContact
  cases h : isIn x 0 2 with
  | false => exact .no rfl (by rw [if_neg (by decide), if_neg (by decide)]) (by rw [if_neg (by decide)]; exact inv_le)
  | true =>
    rw [if_pos rfl, if_pos rfl, Bool.true_and]
    cases h2 : isIn y 0 1 with
    | false => exact .no rfl (by rw [if_neg (by decide), if_neg (by decide)]) (by rw [if_neg (by decide)]; exact inv_le)
    | true =>
      have hk := kOf h
      rw [if_pos rfl, if_pos rfl]
      exact .yes rfl (by rw [H.1.st hk (i := 4) (by decide)]) (b2i_big _) (H.stu hk (i := 7) (by decide) (by decide) h2)
theorem act_opening (H : RB B C R) (x y : Int32) : ActOk B (vContact x y) (aOpening C x y) (fOpening C x y) (aOpening R x y) (fOpening R x y) := by
  unfold vContact aOpening
  cases h : isIn x 0 2 with
  | false => exact .no rfl (by rw [if_neg (by decide), if_neg (by decide)]) (by rw [if_neg (by decide)]; exact inv_le)
  | true =>
    rw [if_pos rfl, if_pos rfl, Bool.true_and]
    cases h2 : isIn y 0 1 with
    | false => exact .no rfl (by rw [if_neg (by decide), if_neg (by decide)]) (by rw [if_neg (by decide)]; exact inv_le)
    | true =>
      have hk := kOf h
      rw [if_pos rfl, if_pos rfl]
      have G : RB B (fOpening C x y) (fOpening R x y) := H.rmu hk (i := 3) (by decide) h2
      have e0 : fOpening C x y 109 = fOpening R x y 109 := G.1.rmj (k := 0) (by decide) (by decide) (by decide)
      have e1 : fOpening C x y 116 = fOpening R x y 116 := G.1.rmj (k := 1) (by decide) (by decide) (by decide)
      have e2 : fOpening C x y 123 = fOpening R x y 123 := G.1.rmj (k := 2) (by decide) (by decide) (by decide)
      refine .yes rfl (by rw [e0, e1, e2]) ?_ G
      rw [← e0, ← e1, ← e2]
      have g0 : fOpening C x y 109 = 0 ∨ fOpening C x y 109 = 1 := G.2.2.1.op (k := 0) (by decide)
      have g1 : fOpening C x y 116 = 0 ∨ fOpening C x y 116 = 1 := G.2.2.1.op (k := 1) (by decide)
      have g2 : fOpening C x y 123 = 0 ∨ fOpening C x y 123 = 1 := G.2.2.1.op (k := 2) (by decide)
      rcases g0 with z0 | z0 <;> rcases g1 with z1 | z1 <;> rcases g2 with z2 | z2 <;> rw [z0, z1, z2] <;> decide
theorem RB.npt (H : RB B C R) {x : Int32} (hk : x.toNatClampNeg < 3) : nPt C x = nPt R x ∧ nPt C x ≤ 8 ∧ C (10 + 32 * x.toNatClampNeg) = nI (nPt C x) := by
  obtain ⟨N, hN, e⟩ := H.2.2.1.cnt hk
  have c : nPt C x = N := by unfold nPt; rw [e]; exact nI_clamp (by omega)
  exact ⟨H.bk hk, by rw [c]; exact hN, by rw [c]; exact e⟩
theorem fPart_1 {s : Nat → Int32} {k N : Nat} {x y z : Int32} : fPart s k N x y z (18 + 32 * k + 3 * N) = x ∧ fPart s k N x y z (18 + 32 * k + 3 * N + 1) = y ∧ fPart s k N x y z (18 + 32 * k + 3 * N + 2) = z := by
  unfold fPart
  refine ⟨?_, ?_, ?_⟩
  · rw [upd_n (by omega), upd_n (by omega), upd_n (by omega), show 18 + 32 * k + 3 * N = 10 + 32 * k + 8 + 3 * N by omega, upd_s]
  · rw [upd_n (by omega), upd_n (by omega), show 18 + 32 * k + 3 * N + 1 = 10 + 32 * k + 8 + 3 * N + 1 by omega, upd_s]
  · rw [upd_n (by omega), show 18 + 32 * k + 3 * N + 2 = 10 + 32 * k + 8 + 3 * N + 2 by omega, upd_s]
theorem pt3 {i N : Nat} (h : i < 3 * (N + 1)) : i < 3 * N ∨ i = 3 * N ∨ i = 3 * N + 1 ∨ i = 3 * N + 2 := by omega
theorem RB.part (H : RB B C R) {k N : Nat} {x y z : Int32} (hk : k < 3) (hN : N < 8) (hc : C (10 + 32 * k) = nI N) (hx : isIn x 0 9 = true) (hy : isIn y 0 5 = true) (hz : isIn z 0 5 = true) : RB B (fPart C k N x y z) (fPart R k N x y z) := by
  obtain ⟨H, h6, W, T, hT, e9⟩ := H
  have o : ∀ {s : Nat → Int32} {j : Nat}, (j < 10 + 32 * k ∨ (10 + 32 * k < j ∧ j < 18 + 32 * k) ∨ 42 + 32 * k ≤ j) → fPart s k N x y z j = s j := fun h => fPart_o (by omega)
  have r8 : ∀ i w, i < 8 → w < 3 → rgS (8 + 3 * i + w) = if w = 0 then (0, 9) else (0, 5) := by
    intro i w hi hw
    unfold rgS
    rw [if_neg (by omega), if_neg (by omega), if_neg (by omega), if_neg (by omega), if_neg (by omega)]
    by_cases q : w = 0
    · rw [if_pos q, if_pos (by omega)]
    · rw [if_neg q, if_neg (by omega)]
  refine ⟨⟨fun j hj h6 => ?_, fun k' hk' i hi => ?_, fun k' hk' i hi => ?_, fun k' hk' i hi => ?_, fun k' hk' => ?_⟩, ?_, ?_, T, hT, ?_⟩
  · rw [o (by omega), o (by omega)]; exact H.1 j hj h6
  · by_cases q : 10 + 32 * k' + i = 10 + 32 * k
    · rw [q, fPart_0, fPart_0]
    · rw [o (by omega), o (by omega)]; exact H.2.1 k' hk' i hi
  · by_cases q : k' = k
    · subst q
      rw [fPart_0, nI_clamp (by omega)] at hi
      rcases pt3 hi with h | rfl | rfl | rfl
      · rw [fPart_o (by omega), fPart_o (by omega)]
        exact H.2.2.1 k' hk' i (by rw [hc, nI_clamp (by omega)]; exact h)
      · rw [fPart_1.1, fPart_1.1]
      · rw [← Nat.add_assoc, fPart_1.2.1, fPart_1.2.1]
      · rw [← Nat.add_assoc, fPart_1.2.2, fPart_1.2.2]
    · rw [o (by omega)] at hi
      have c8 := (W.wfT hk').2.1
      rw [o (by omega), o (by omega)]
      exact H.2.2.1 k' hk' i hi
  · rw [o (by omega), o (by omega)]; exact H.2.2.2.1 k' hk' i hi
  · rw [o (j := 9) (by omega), o (by omega), o (by omega), o (by omega), o (by omega)]; exact H.2.2.2.2 k' hk'
  · rw [o (by omega), o (by omega)]; exact h6
  · unfold fPart
    refine (((W.upd ?_).upd ?_).upd ?_).upd ?_
    · rw [show 10 + 32 * k + 8 + 3 * N = 10 + 32 * k + (8 + 3 * N + 0) by omega, rg_S hk (by omega), r8 N 0 hN (by decide)]; exact hx
    · rw [show 10 + 32 * k + 8 + 3 * N + 1 = 10 + 32 * k + (8 + 3 * N + 1) by omega, rg_S hk (by omega), r8 N 1 hN (by decide)]; exact hy
    · rw [show 10 + 32 * k + 8 + 3 * N + 2 = 10 + 32 * k + (8 + 3 * N + 2) by omega, rg_S hk (by omega), r8 N 2 hN (by decide)]; exact hz
    · rw [show rg (10 + 32 * k) = rgS 0 from rg_S (i := 0) hk (by decide)]
      refine isIn_z.mpr ?_
      rw [nI_toInt (by omega)]
      have c1 : (rgS 0).1.toInt = 0 := rfl
      have c2 : (rgS 0).2.toInt = 8 := rfl
      omega
  · rw [o (by omega)]; exact e9
theorem in19 {x : Int32} (h : isIn x 1 9 = true) : isIn x 0 9 = true := by
  have z := isIn_z.mp h
  have c1 : (1 : Int32).toInt = 1 := rfl
  have c0 : (0 : Int32).toInt = 0 := rfl
  exact isIn_z.mpr ⟨by omega, z.2⟩
theorem act_part (H : RB B C R) (x y z w : Int32) : ActOk B (vPart C x y z w) (aPart C x y z w) (fPart C x.toNatClampNeg (nPt C x) y z w) (aPart R x y z w) (fPart R x.toNatClampNeg (nPt R x) y z w) := by
  unfold vPart aPart
  cases h : isIn x 0 2 with
  | false => exact .no rfl (by rw [if_neg (by decide), if_neg (by decide)]) (by rw [if_neg (by decide)]; exact inv_le)
  | true =>
    have hk := kOf h
    obtain ⟨n1, n2, n3⟩ := H.npt hk
    rw [if_pos rfl, if_pos rfl, Bool.true_and, ← n1]
    cases h2 : isIn y 1 9 with
    | false => exact .no rfl rfl (by rw [if_neg (by decide)]; exact inv_le)
    | true =>
      rw [if_pos rfl, Bool.true_and]
      cases h3 : isIn z 0 5 with
      | false => exact .no rfl rfl (by rw [if_neg (by decide)]; exact inv_le)
      | true =>
        rw [if_pos rfl, Bool.true_and]
        cases h4 : isIn w 0 5 with
        | false => exact .no rfl rfl (by rw [if_neg (by decide)]; exact inv_le)
        | true =>
          rw [if_pos rfl, Bool.true_and]
          by_cases q : nPt C x = 8
          · rw [if_pos q]
            exact .no (by rw [decide_eq_true q]; rfl) rfl (by decide)
          · rw [if_neg q]
            exact .yes (by rw [decide_eq_false q]; rfl) rfl (nI_big (by omega)) (H.part hk (by omega) n3 (in19 h2) h3 h4)
end

