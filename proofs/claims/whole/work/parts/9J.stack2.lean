/-! stack: both sides -/
theorem sub_back {b c : Int32} {m : Int} (h : b - zI m = c) : b = zI (c.toInt + m) := by
  have e : b - zI m + zI m = zI (b.toInt - m + m) := by rw [← zI_add, ← zI_sub, ← zI_of]
  rw [h, Int.sub_add_cancel, ← zI_of] at e
  rw [← zI_add, ← zI_of]
  exact e.symm
theorem StkNo_big {R : Nat → Int32} {b : Int32} (h : ¬ (-900 ≤ b.toInt ∧ b.toInt ≤ 900)) : StkNo R b := by
  intro P T hP h1 h2
  cases hc : cS R P T b with
  | false => rfl
  | true =>
    exfalso
    unfold cS cbB at hc
    have : P = 0 ∨ P = 1 ∨ P = 2 ∨ P = 3 := by omega
    rcases this with rfl | rfl | rfl | rfl
    · rw [if_pos rfl, Bool.and_eq_true, decide_eq_true_eq, decide_eq_true_eq] at hc
      have e : (0 : Int32).toInt = 0 := rfl
      rw [hc.2, e] at h
      omega
    · rw [if_neg (by decide), if_pos rfl] at hc
      unfold sgB at hc
      rw [Bool.and_eq_true, Bool.and_eq_true, Bool.and_eq_true, decide_eq_true_eq] at hc
      obtain ⟨-, c2, c3, -⟩ := hc
      rw [zI_n] at c2 c3
      have r := isIn_z.mp c3
      have c1 : (-30 : Int32).toInt = -30 := rfl
      have c4 : (30 : Int32).toInt = 30 := rfl
      rw [c1, c4] at r
      rw [zI_of (b / zI T), zI_mul] at c2
      have m : -270 ≤ (b / zI T).toInt * (T : Int) ∧ (b / zI T).toInt * (T : Int) ≤ 270 := by
        have q : (b / zI T).toInt.natAbs * T ≤ 30 * 9 := Nat.mul_le_mul (by omega) (by omega)
        have q2 : ((b / zI T).toInt * (T : Int)).natAbs = (b / zI T).toInt.natAbs * T := by rw [Int.natAbs_mul]; rfl
        omega
      have z := congrArg Int32.toInt (sub_back c2)
      have e : (0 : Int32).toInt = 0 := rfl
      rw [e] at z
      rw [zI_t (by omega) (by omega)] at z
      omega
    · rw [if_neg (by decide), if_neg (by decide), if_pos rfl] at hc
      unfold dbB at hc
      rw [Bool.and_eq_true, Bool.and_eq_true] at hc
      have r := isIn_z.mp hc.2.1
      have c1 : (-540 : Int32).toInt = -540 := rfl
      have c4 : (540 : Int32).toInt = 540 := rfl
      omega
    · rw [if_neg (by decide), if_neg (by decide), if_neg (by decide), cbG_iff] at hc
      obtain ⟨i, _, hi, hh⟩ := hc
      unfold hitB dbB at hh
      rw [Bool.and_eq_true, Bool.and_eq_true, Bool.and_eq_true] at hh
      have r := isIn_z.mp hh.2.2.1
      have c1 : (-540 : Int32).toInt = -540 := rfl
      have c4 : (540 : Int32).toInt = 540 := rfl
      have m := ld_bd (l := i / 61 + 1) (x := ((i % 61 : Nat) : Int) - 30) (by omega) ⟨by omega, by omega⟩
      have e2 : nI (i / 61 + 1) * (nI (i % 61) - 30) = zI ((i / 61 + 1 : Nat) * (((i % 61 : Nat) : Int) - 30)) := by
        rw [zI_n, zI_n, show (30 : Int32) = zI 30 from rfl, zI_sub, zI_mul]
      rw [e2] at r
      have z := congrArg Int32.toInt (sub_back (b := b) (m := (i / 61 + 1 : Nat) * (((i % 61 : Nat) : Int) - 30)) rfl)
      rw [zI_t (by omega) (by omega)] at z
      omega
section
variable {ca : Nat → ClassId} {h h' : PH} {g q : Nat → Nat} {B : Nat}
theorem both_stack (A : Ap g q) (H : LW ca h g q B) (b i w : Int32) : Both (sp_X7_stack ca) (sp_X8_stack ca) ca h g q B [.int b, .int i, .int w] := by
  have H0 := H
  obtain ⟨lk, s, oo, ss, S, n, f, fo, le, pe, sn, R, p, f', H⟩ := H
  intro post hp
  have W := H.2.2.2.1.2.2.1
  have HL := H.2.2.2.1.1
  have nR := HL.numOk W
  have ex : ∃ Nf : Nat → Nat, Nm Nf ∧ (∀ j, j < 6 → R j = nI (Nf j)) := by
    refine ⟨fun j => (R j).toNatClampNeg, fun j hj => ?_, fun j hj => ?_⟩
    · obtain ⟨N, hN, e⟩ := nR j hj
      show (R j).toNatClampNeg ≤ 30
      rw [e, nI_clamp (by omega)]
      exact hN
    · obtain ⟨N, hN, e⟩ := nR j hj
      show R j = nI (R j).toNatClampNeg
      rw [e, nI_clamp (by omega)]
  obtain ⟨Nf, hN, hR⟩ := ex
  have hC : ∀ j, j < 6 → s j = nI (Nf j) := fun j hj => (HL.lo (by omega) (by omega)).trans (hR j hj)
  have pre : StkNo R b ∨ ∃ P T kk, StkAt R b P T ∧ RowC R P T b kk := by
    by_cases hb : -900 ≤ b.toInt ∧ b.toInt ≤ 900
    · rw [zI_of b]
      rcases StkRes_ex hN b.toInt with z | ⟨P, T, kk, z⟩
      · exact Or.inl ((StkNo_z hN hR hb).mpr z)
      · exact Or.inr ⟨P, T.toNat, kk, StkZ_c hN hR hb z⟩
    · exact Or.inl (StkNo_big hb)
  have ref : ∀ (Nf : Nat → Nat), Nm Nf → (∀ j, j < 6 → R j = nI (Nf j)) → ∀ (h1 : PH) (x : Int32), CI ca h1 g lk s oo ss S n f fo le pe sn → RAt ca h1 (q 0) (qN q) R p ss f' n → stOk b i w = true → StkRes Nf b.toInt i w x → ∀ post2 : Option Value → PH → Prop, (∀ h2, LW ca h2 g q B → post2 (some (.int x)) h2) → sp_X8_stack ca [.ref (q 0), .int b, .int i, .int w] h1 post2 := by
    intro Nf hN hR h1 x hC1 hR1 ok hx post2 h2
    have ib := ok
    unfold stOk at ib
    rw [Bool.and_eq_true] at ib
    have hb := isIn_z.mp ib.1
    have c1 : (-900 : Int32).toInt = -900 := rfl
    have c2 : (900 : Int32).toInt = 900 := rfl
    rw [c1, c2] at hb
    have fin : ∀ y, StkRes Nf b.toInt i w y → RX ca h1 (q 0) (qN q) R p ss f' n post2 y := by
      intro y hy h3 hr hm
      rw [← StkRes_u hx hy]
      exact h2 h3 ⟨lk, s, oo, ss, S, n, f, fo, le, pe, sn, R, p, f', CI_k hC1 (fun i hi => SmR_g A hm hi), hr, H.2.2⟩
    refine ⟨q 0, qN q, R, p, ss, f', n, b, i, w, rfl, RI_q A.2.1, hR1, nR, pre, fun z => absurd (z.symm.trans ok) (by decide), fun _ hn => fin _ (Or.inl ⟨?_, rfl⟩), fun _ P T kk ha hr => fin _ (Or.inr ⟨P, T, kk, ?_, rfl⟩)⟩
    · rw [zI_of b] at hn
      exact (StkNo_z hN hR hb).mp hn
    · rw [zI_of b] at ha hr
      exact StkAt_z hN hR hb ha hr
  have fr : ∀ h1, SFs ca h1 (g 141) (g 142) (g 143) (g 144) (g 145) → SmS (g 141) (g 142) (g 143) (g 144) (g 145) h h1 → CI ca h1 g lk s oo ss S n f fo le pe sn ∧ RAt ca h1 (q 0) (qN q) R p ss f' n := by
    intro h1 hs hm
    have e : ∀ i, i < 141 → h1 (g i) = h (g i) := fun i hi => hm _ (gne A.1 (by omega)) (gne A.1 (by omega)) (gne A.1 (by omega)) (gne A.1 (by omega)) (gne A.1 (by omega))
    exact ⟨⟨CN_k H.1.1 (fun i hi => e i (by omega)), XAt_k H.1.2.1 (e 113 (by decide)) (e 114 (by decide)), LF_k H.1.2.2.1 (fun i a c => e i c), hs⟩, RAt_k H.2.1 (fun i hi => hm _ (fun z => A.2.2 141 i (by decide) hi z.symm) (fun z => A.2.2 142 i (by decide) hi z.symm) (fun z => A.2.2 143 i (by decide) hi z.symm) (fun z => A.2.2 144 i (by decide) hi z.symm) (fun z => A.2.2 145 i (by decide) hi z.symm))⟩
  refine ⟨g 0, bN g, g 23, g 113, g 115, g 141, lk, s, g 142, g 143, g 144, g 145, b, i, w, rfl, H.1.1.1, H.1.1.2.1, W.numOk, DS_g A.1, ⟨gne A.1 (by decide), gne A.1 (by decide), gne A.1 (by decide), gne A.1 (by decide), gne A.1 (by decide)⟩, ⟨gne A.1 (by decide), gne A.1 (by decide), gne A.1 (by decide), gne A.1 (by decide), gne A.1 (by decide)⟩, H.1.2.2.2, fun z => ?_, fun ok Nf' hN' hC' hz h1 hs hm => ?_, fun ok Nf' hN' hC' P T kk hz h1 hs hm => ?_⟩
  · exact hp _ h (fun post2 h2 => ⟨q 0, qN q, R, p, ss, f', n, b, i, w, rfl, RI_q A.2.1, H.2.1, nR, pre, fun _ => h2 h H0, fun z' => absurd (z.symm.trans z') (by decide), fun z' => absurd (z.symm.trans z') (by decide)⟩)
  · exact hp _ h1 (fun post2 h2 => ref Nf' hN' (fun j hj => (HL.lo (by omega) (by omega)).symm.trans (hC' j hj)) h1 _ (fr h1 hs hm).1 (fr h1 hs hm).2 ok (Or.inl ⟨hz, rfl⟩) post2 h2)
  · exact hp _ h1 (fun post2 h2 => ref Nf' hN' (fun j hj => (HL.lo (by omega) (by omega)).symm.trans (hC' j hj)) h1 _ (fr h1 hs hm).1 (fr h1 hs hm).2 ok (Or.inr ⟨P, T, kk, hz, rfl⟩) post2 h2)
end
