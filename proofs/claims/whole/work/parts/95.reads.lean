/-! answers that change nothing: both rows give the same -/
section
variable {C R : Nat → Int32} {B k : Nat}
theorem Rl.prt (H : Rl C R) (W : Wf C) (hk : k < 3) {i w : Nat} (hi : i < (C (10 + 32 * k)).toNatClampNeg) (hw : w < 3) : C (10 + 32 * k + (8 + w + 3 * i)) = R (10 + 32 * k + (8 + w + 3 * i)) := H.ptj hk (by omega) (by omega)
theorem ans_strip (H : RB B C R) (x w : Int32) : aStripOf C x w = aStripOf R x w := by
  unfold aStripOf
  by_cases h : isIn x 0 2 = true
  · rw [if_pos h, if_pos h]
    by_cases h2 : isIn w 0 11 = true
    · rw [if_pos h2, if_pos h2]
      have hk := kOf h
      obtain ⟨H, h6, W, -⟩ := H
      have e0 := H.st0 hk
      have er := (H.rtE W hk).1
      obtain ⟨V, hV, rfl⟩ := isIn0 (B := 11) rfl h2
      unfold sOf
      by_cases q0 : nI V = 0
      · rw [if_pos q0, if_pos q0]; exact e0
      rw [if_neg q0, if_neg q0]
      by_cases q1 : nI V = 1
      · rw [if_pos q1, if_pos q1, ← e0]
        exact sumF_cong (fun i hi => H.prt W hk (w := 0) hi (by decide))
      rw [if_neg q1, if_neg q1]
      by_cases q2 : nI V = 2
      · rw [if_pos q2, if_pos q2]; exact er
      rw [if_neg q2, if_neg q2]
      by_cases q3 : nI V = 3
      · rw [if_pos q3, if_pos q3, er, H.rmj hk (j := 106 + 7 * x.toNatClampNeg) (by omega) (by omega)]
      rw [if_neg q3, if_neg q3]
      by_cases q4 : nI V = 11
      · rw [if_pos q4, if_pos q4, H.st hk (i := 7) (by decide), H.st hk (i := 4) (by decide)]
      rw [if_neg q4, if_neg q4, nI_clamp (by omega)]
      have n0 : ¬ V = 0 := fun z => q0 (by rw [z]; rfl)
      have n1 : ¬ V = 1 := fun z => q1 (by rw [z]; rfl)
      have n2 : ¬ V = 2 := fun z => q2 (by rw [z]; rfl)
      have n3 : ¬ V = 3 := fun z => q3 (by rw [z]; rfl)
      have n4 : ¬ V = 11 := fun z => q4 (by rw [z]; rfl)
      exact H.stj hk (by omega) (by omega)
    · rw [if_neg h2, if_neg h2]
  · rw [if_neg h, if_neg h]
theorem ans_part (H : RB B C R) (x i w : Int32) : aPartOf C x i w = aPartOf R x i w := by
  unfold aPartOf
  by_cases h : isIn x 0 2 = true
  · rw [if_pos h, if_pos h]
    by_cases h2 : isIn w 0 3 = true
    · rw [if_pos h2, if_pos h2]
      have hk := kOf h
      obtain ⟨H, h6, W, -⟩ := H
      have e0 := H.st0 hk
      by_cases q : i < 0
      · rw [if_pos q, if_pos q]
      rw [if_neg q, if_neg q, ← e0]
      by_cases q1 : C (10 + 32 * x.toNatClampNeg) ≤ i
      · rw [if_pos q1, if_pos q1]
      rw [if_neg q1, if_neg q1]
      obtain ⟨V, hV, rfl⟩ := isIn0 (B := 3) rfl h2
      obtain ⟨N, hN, eN⟩ := W.cnt hk
      obtain ⟨I, hI, rfl⟩ := nI_of q
      rw [eN, nI_leI (by omega) hI] at q1
      rw [nI_clamp hI, nI_clamp (by omega)]
      have hi : I < (C (10 + 32 * x.toNatClampNeg)).toNatClampNeg := by rw [eN, nI_clamp (by omega)]; omega
      have a0 := H.prt W hk (w := 0) hi (by decide)
      have a1 := H.prt W hk (w := 1) hi (by decide)
      have a2 := H.prt W hk (w := 2) hi (by decide)
      obtain ⟨u1, v1, w1⟩ := W.pU hk (i := I) (by omega)
      obtain ⟨u2, v2, w2⟩ := W.pW hk (i := I) (by omega)
      unfold pOf
      by_cases q3 : V = 3
      · rw [if_pos q3, if_pos q3]
        show C (10 + 32 * x.toNatClampNeg + (8 + 3 * I)) * (C (C (10 + 32 * x.toNatClampNeg + (9 + 3 * I))).toNatClampNeg - C (C (10 + 32 * x.toNatClampNeg + (10 + 3 * I))).toNatClampNeg) = R (10 + 32 * x.toNatClampNeg + (8 + 3 * I)) * (R (R (10 + 32 * x.toNatClampNeg + (9 + 3 * I))).toNatClampNeg - R (R (10 + 32 * x.toNatClampNeg + (10 + 3 * I))).toNatClampNeg)
        rw [← a0, ← a1, ← a2, w1, w2, nI_clamp (by omega), nI_clamp (by omega), H.lo (j := u1) (by omega) (by omega), H.lo (j := u2) (by omega) (by omega)]
      · rw [if_neg q3, if_neg q3]
        exact H.ptj hk (by omega) (by omega)
    · rw [if_neg h2, if_neg h2]
  · rw [if_neg h, if_neg h]
theorem ans_room (H : RB B C R) (x w : Int32) : aRoomOf C x w = aRoomOf R x w := by
  unfold aRoomOf
  by_cases h : isIn x 0 2 = true
  · rw [if_pos h, if_pos h]
    by_cases h2 : isIn w 0 6 = true
    · rw [if_pos h2, if_pos h2]
      have hk := kOf h
      obtain ⟨H, h6, W, -⟩ := H
      obtain ⟨V, hV, rfl⟩ := isIn0 (B := 6) rfl h2
      rw [nI_clamp (by omega)]
      by_cases q : nI V ≤ 4
      · rw [if_pos q, if_pos q]
        rw [show (4 : Int32) = nI 4 from rfl, nI_leI (by omega) (by omega)] at q
        exact H.rmj hk (by omega) (by omega)
      · rw [if_neg q, if_neg q, ← H.lo (j := 9) (by decide) (by decide)]
        rw [show (4 : Int32) = nI 4 from rfl, nI_leI (by omega) (by omega)] at q
        by_cases q9 : C 9 = 0
        · rw [if_pos q9, if_pos q9]
        · rw [if_neg q9, if_neg q9]
          have g := (H.2.2.2.2 x.toNatClampNeg hk).2 q9
          have : V = 5 ∨ V = 6 := by omega
          rcases this with rfl | rfl
          · rw [show 106 + 7 * x.toNatClampNeg + 5 = 111 + 7 * x.toNatClampNeg by omega]; exact g.1
          · rw [show 106 + 7 * x.toNatClampNeg + 6 = 112 + 7 * x.toNatClampNeg by omega]; exact g.2
    · rw [if_neg h2, if_neg h2]
  · rw [if_neg h, if_neg h]
theorem ans_count (H : RB B C R) (t n : Nat) (w : Int32) : aCount C t n w = aCount R t n w := by
  obtain ⟨H, h6, W, -⟩ := H
  have e9 : C 9 = R 9 := H.lo (by decide) (by decide)
  have e8 : C 8 = R 8 := H.lo (by decide) (by decide)
  have e7 : C 7 = R 7 := H.lo (by decide) (by decide)
  have a0 : C 16 = R 16 := H.st (k := 0) (by decide) (i := 6) (by decide)
  have a1 : C 48 = R 48 := H.st (k := 1) (by decide) (i := 6) (by decide)
  have a2 : C 80 = R 80 := H.st (k := 2) (by decide) (i := 6) (by decide)
  unfold aCount
  rw [e9, e8, e7, a0, a1, a2, h6]
  by_cases h : isIn w 10 15 = true
  · rw [if_pos h, if_pos h]
    have z := isIn_z.mp h
    have c1 : (10 : Int32).toInt = 10 := rfl
    have c2 : (15 : Int32).toInt = 15 := rfl
    have e : (w - 10).toNatClampNeg < 6 := by
      rw [zI_of w, show (10 : Int32) = zI 10 from rfl, zI_sub]
      show (zI (w.toInt - 10)).toInt.toNat < 6
      rw [zI_t (by omega) (by omega)]
      omega
    rw [H.lo (j := (w - 10).toNatClampNeg) (by omega) (by omega)]
  · rw [if_neg h, if_neg h]
theorem ans_bend (H : RB B C R) (x w : Int32) : aBend C x w = aBend R x w := by
  unfold aBend
  by_cases h : isIn x 0 2 = true
  · rw [if_pos h, if_pos h, (H.1.rtE H.2.2.1 (kOf h)).1]
  · rw [if_neg h, if_neg h]
theorem ans_trip (H : RB B C R) (x w : Int32) : aTripC C x w = aTripM R x w := by
  unfold aTripC aTripM
  by_cases h : isIn x 0 2 = true
  · have hk := kOf h
    rw [if_pos h, if_pos h, (H.1.rtE H.2.2.1 hk).1.symm, ← H.1.st hk (i := 2) (by decide), ← H.1.st hk (i := 1) (by decide)]
    obtain ⟨z, h1, h2, e⟩ := H.2.2.1.rtz hk
    have b1 := isIn_z.mp (H.2.2.1.S hk (i := 1) (by decide))
    have b2 := isIn_z.mp (H.2.2.1.S hk (i := 2) (by decide))
    have c1 : (rgS 1).1.toInt = -90000 := rfl
    have c2 : (rgS 1).2.toInt = 90000 := rfl
    have c3 : (rgS 2).1.toInt = -90000 := rfl
    have c4 : (rgS 2).2.toInt = 90000 := rfl
    rw [e, zI_of (C (10 + 32 * x.toNatClampNeg + 1)), zI_of (C (10 + 32 * x.toNatClampNeg + 2)), lPull_e ⟨h1, h2⟩ ⟨by omega, by omega⟩, gPull_e ⟨h1, h2⟩ ⟨by omega, by omega⟩]
  · rw [if_neg h, if_neg h]
end
