/-! the warmths at which a strip trips -/
theorem b_sg (x : Int32) : bt x 31 = true ↔ x < 0 := by
  unfold bt
  have e := BitVec.msb_eq_toInt (x := x.toBitVec)
  rw [BitVec.msb_eq_getLsbD_last] at e
  have e' : x.toBitVec.getLsbD 31 = decide (x.toBitVec.toInt < 0) := e
  rw [e', decide_eq_true_eq, Int32.lt_iff_toInt_lt]
  exact Iff.rfl
theorem xor_sg {x y : Int32} (hy : ¬ y < 0) : 0 ≤ x ^^^ y ↔ 0 ≤ x := by
  have e : bt (x ^^^ y) 31 = (bt x 31 ^^ bt y 31) := by unfold bt; rw [Int32.toBitVec_xor, BitVec.getLsbD_xor]
  have f : bt y 31 = false := by
    cases q : bt y 31 with
    | false => rfl
    | true => exact absurd ((b_sg y).mp q) hy
  rw [f, Bool.xor_false] at e
  rw [← Int32.not_lt, ← Int32.not_lt, ← b_sg, ← b_sg, e]
theorem tdiv_z {x y : Int} (hx : -2000000000 ≤ x ∧ x ≤ 2000000000) (hy : 0 < y ∧ y ≤ 2000000000) : zI x / zI y = zI (x.tdiv y) := by
  refine (Int32.ofInt_tdiv ?_ ?_ ?_ ?_).symm
  · show (-2147483648 : Int) ≤ x; omega
  · show x ≤ (2147483647 : Int); omega
  · show (-2147483648 : Int) ≤ y; omega
  · show y ≤ (2147483647 : Int); omega
theorem zI_neg (x : Int) : -zI x = zI (-x) := (Int32.ofInt_neg x).symm
theorem flDiv_z {x y : Int} (hx : -1000000000 ≤ x ∧ x ≤ 1000000000) (hy : 0 < y ∧ y ≤ 1000000000) : flDiv (zI x) (zI y) = zI (x / y) := by
  have ny : ¬ zI y < 0 := by
    rw [show (0 : Int32) = zI 0 from rfl, zI_lt ⟨by omega, by omega⟩ ⟨by omega, by omega⟩]; omega
  have d := tdiv_z (x := x) (y := y) ⟨by omega, by omega⟩ ⟨by omega, by omega⟩
  have hle : 0 ≤ zI x ↔ 0 ≤ x := by
    rw [show (0 : Int32) = zI 0 from rfl, zI_le ⟨by omega, by omega⟩ ⟨by omega, by omega⟩]
  unfold flDiv
  by_cases q : 0 ≤ x
  · rw [if_pos ((xor_sg ny).mpr (hle.mpr q)), d, Int.tdiv_eq_ediv_of_nonneg q]
  · rw [if_neg (fun z => q (hle.mp ((xor_sg ny).mp z))), d, zI_mul]
    have hq : x.tdiv y = - ((-x) / y) := by
      have e : (-(-x)).tdiv y = -((-x).tdiv y) := Int.neg_tdiv _ _
      have f : (-x).tdiv y = (-x) / y := Int.tdiv_eq_ediv_of_nonneg (show 0 ≤ -x by omega)
      rw [Int.neg_neg, f] at e
      exact e
    have m1 := Int.mul_ediv_add_emod (-x) y
    have m2 := Int.emod_nonneg (-x) (b := y) (by omega)
    have m3 := Int.emod_lt_of_pos (-x) hy.1
    have s2 : x.tdiv y * y = -(y * ((-x) / y)) := by rw [hq, Int.neg_mul, Int.mul_comm]
    have t1 : x.tdiv y * y = x + (-x) % y := by omega
    rw [t1]
    by_cases r0 : (-x) % y = 0
    · rw [if_pos (by rw [r0, Int.add_zero])]
      refine congrArg zI (Int.le_antisymm ?_ ?_)
      · rw [Int.le_ediv_iff_mul_le hy.1]; omega
      · have l : x / y < x.tdiv y + 1 := by rw [Int.ediv_lt_iff_lt_mul hy.1, Int.add_mul, Int.one_mul]; omega
        omega
    · rw [if_neg (by rw [zI_eq ⟨by omega, by omega⟩ ⟨by omega, by omega⟩]; omega), show (1 : Int32) = zI 1 from rfl, zI_sub]
      refine congrArg zI (Int.le_antisymm ?_ ?_)
      · rw [Int.le_ediv_iff_mul_le hy.1, Int.sub_mul, Int.one_mul]; omega
      · have l : x / y < x.tdiv y := by rw [Int.ediv_lt_iff_lt_mul hy.1]; omega
        omega
section
variable {z H : Int} (hz : -2160 ≤ z ∧ z ≤ 2160) (hH : -90000 ≤ H ∧ H ≤ 90000)
theorem tp_lt (hz : -2160 ≤ z ∧ z ≤ 2160) (hH : -90000 ≤ H ∧ H ≤ 90000) {u : Int} (hu : -1300 ≤ u ∧ u ≤ 1300) : zI (z * u) < zI H ↔ z * u < H := by
  have m := mul_bd hz.1 hz.2 hu.1 hu.2
  rw [zI_lt ⟨by omega, by omega⟩ ⟨by omega, by omega⟩]
theorem tp_gt (hz : -2160 ≤ z ∧ z ≤ 2160) (hH : -90000 ≤ H ∧ H ≤ 90000) {u : Int} (hu : -1300 ≤ u ∧ u ≤ 1300) : zI H < zI (z * u) ↔ H < z * u := by
  have m := mul_bd hz.1 hz.2 hu.1 hu.2
  rw [zI_lt ⟨by omega, by omega⟩ ⟨by omega, by omega⟩]
theorem tpU_e (k : Nat) : zI z * (-500 + nI k - 200) = zI (z * ((k : Int) - 700)) := by
  rw [show (-500 : Int32) = zI (-500) from rfl, show (200 : Int32) = zI 200 from rfl, zI_n, zI_add, zI_sub, zI_mul]
  exact congrArg (fun u => zI (z * u)) (by omega)
theorem tpD_e (k : Nat) : zI z * (1500 - nI k - 200) = zI (z * (1300 - (k : Int))) := by
  rw [show (1500 : Int32) = zI 1500 from rfl, show (200 : Int32) = zI 200 from rfl, zI_n, zI_sub, zI_sub, zI_mul]
  exact congrArg (fun u => zI (z * u)) (by omega)
theorem tpU_none (hz : -2160 ≤ z ∧ z ≤ 2160) (hH : -90000 ≤ H ∧ H ≤ 90000) : ∀ r k, k + r ≤ 2001 → (∀ i : Nat, k ≤ i → i < k + r → z * ((i : Int) - 700) < H) → tpU (zI z) (zI H) r k = -10000004
  | 0, _, _, _ => rfl
  | r + 1, k, hk, h => by
    unfold tpU
    rw [tpU_e, if_pos ((tp_lt hz hH ⟨by omega, by omega⟩).mpr (h k (by omega) (by omega)))]
    exact tpU_none hz hH r (k + 1) (by omega) (fun i h1 h2 => h i (by omega) (by omega))
theorem tpU_at (hz : -2160 ≤ z ∧ z ≤ 2160) (hH : -90000 ≤ H ∧ H ≤ 90000) {K : Nat} (hK : ¬ z * ((K : Int) - 700) < H) : ∀ r k, k ≤ K → K < k + r → k + r ≤ 2001 → (∀ i : Nat, k ≤ i → i < K → z * ((i : Int) - 700) < H) → tpU (zI z) (zI H) r k = zI ((K : Int) - 500)
  | 0, _, _, _, _, _ => by omega
  | r + 1, k, h1, h2, h3, h => by
    unfold tpU
    by_cases q : k = K
    · subst q
      rw [tpU_e, if_neg (fun y => hK ((tp_lt hz hH ⟨by omega, by omega⟩).mp y)), show (-500 : Int32) = zI (-500) from rfl, zI_n, zI_add]
      exact congrArg zI (by omega)
    · rw [tpU_e, if_pos ((tp_lt hz hH ⟨by omega, by omega⟩).mpr (h k (by omega) (by omega)))]
      exact tpU_at hz hH hK r (k + 1) (by omega) (by omega) (by omega) (fun i h1 h2 => h i (by omega) h2)
theorem tpD_none (hz : -2160 ≤ z ∧ z ≤ 2160) (hH : -90000 ≤ H ∧ H ≤ 90000) : ∀ r k, k + r ≤ 2001 → (∀ i : Nat, k ≤ i → i < k + r → H < z * (1300 - (i : Int))) → tpD (zI z) (zI H) r k = -10000004
  | 0, _, _, _ => rfl
  | r + 1, k, hk, h => by
    unfold tpD
    rw [tpD_e, if_pos ((tp_gt hz hH ⟨by omega, by omega⟩).mpr (h k (by omega) (by omega)))]
    exact tpD_none hz hH r (k + 1) (by omega) (fun i h1 h2 => h i (by omega) (by omega))
theorem tpD_at (hz : -2160 ≤ z ∧ z ≤ 2160) (hH : -90000 ≤ H ∧ H ≤ 90000) {K : Nat} (hK : ¬ H < z * (1300 - (K : Int))) : ∀ r k, k ≤ K → K < k + r → k + r ≤ 2001 → (∀ i : Nat, k ≤ i → i < K → H < z * (1300 - (i : Int))) → tpD (zI z) (zI H) r k = zI (1500 - (K : Int))
  | 0, _, _, _, _, _ => by omega
  | r + 1, k, h1, h2, h3, h => by
    unfold tpD
    by_cases q : k = K
    · subst q
      rw [tpD_e, if_neg (fun y => hK ((tp_gt hz hH ⟨by omega, by omega⟩).mp y)), show (1500 : Int32) = zI 1500 from rfl, zI_n, zI_sub]
    · rw [tpD_e, if_pos ((tp_gt hz hH ⟨by omega, by omega⟩).mpr (h k (by omega) (by omega)))]
      exact tpD_at hz hH hK r (k + 1) (by omega) (by omega) (by omega) (fun i h1 h2 => h i (by omega) h2)
theorem mul_np {a x y : Int} (h : a ≤ 0) (hxy : x ≤ y) : a * y ≤ a * x := by
  have e := Int.mul_le_mul_of_nonneg_left hxy (show 0 ≤ -a by omega)
  rw [Int.neg_mul, Int.neg_mul] at e
  omega
theorem lPull_e (hz : -2160 ≤ z ∧ z ≤ 2160) (hH : -90000 ≤ H ∧ H ≤ 90000) : lPull (zI z) (zI H) = tpU (zI z) (zI H) 2001 0 := by
  have h0 : 0 < zI z ↔ 0 < z := by rw [show (0 : Int32) = zI 0 from rfl, zI_lt ⟨by omega, by omega⟩ ⟨by omega, by omega⟩]
  unfold lPull
  by_cases p : 0 < z
  · rw [if_pos (h0.mpr p), zI_neg, flDiv_z ⟨by omega, by omega⟩ ⟨p, by omega⟩]
    have key : ∀ u, z * u < H ↔ u < -((-H) / z) := by
      intro u
      have l := Int.le_ediv_iff_mul_le (a := -u) (b := -H) p
      rw [Int.neg_mul, Int.mul_comm u z] at l
      omega
    have b1 : -90000 ≤ (-H) / z := by rw [Int.le_ediv_iff_mul_le p]; omega
    have b2 : (-H) / z < 90001 := by rw [Int.ediv_lt_iff_lt_mul p]; omega
    rw [show (200 : Int32) = zI 200 from rfl, zI_sub]
    have c1 : zI (200 - (-H) / z) ≤ 1500 ↔ 200 - (-H) / z ≤ 1500 := by rw [show (1500 : Int32) = zI 1500 from rfl, zI_le ⟨by omega, by omega⟩ ⟨by omega, by omega⟩]
    have c2 : zI (200 - (-H) / z) < -500 ↔ 200 - (-H) / z < -500 := by rw [show (-500 : Int32) = zI (-500) from rfl, zI_lt ⟨by omega, by omega⟩ ⟨by omega, by omega⟩]
    by_cases p1 : 200 - (-H) / z ≤ 1500
    · rw [if_pos (c1.mpr p1)]
      by_cases p2 : 200 - (-H) / z < -500
      · rw [if_pos (c2.mpr p2)]
        exact (tpU_at hz hH (K := 0) (by rw [key]; omega) 2001 0 (by omega) (by omega) (by omega) (fun i h1 h2 => absurd h2 (by omega))).symm
      · rw [if_neg (fun y => p2 (c2.mp y))]
        have e : ((200 - (-H) / z + 500).toNat : Int) = 200 - (-H) / z + 500 := Int.toNat_of_nonneg (by omega)
        rw [tpU_at hz hH (K := (200 - (-H) / z + 500).toNat) (by rw [key]; omega) 2001 0 (by omega) (by omega) (by omega) (fun i h1 h2 => by rw [key]; omega)]
        exact congrArg zI (by omega)
    · rw [if_neg (fun y => p1 (c1.mp y))]
      exact (tpU_none hz hH 2001 0 (by omega) (fun i h1 h2 => by rw [key]; omega)).symm
  · rw [if_neg (fun y => p (h0.mp y)), show zI z * (-500 - 200) = zI (z * -700) by rw [show (-500 - 200 : Int32) = zI (-700) from rfl, zI_mul]]
    have c := tp_lt hz hH (u := -700) ⟨by omega, by omega⟩
    by_cases p1 : z * -700 < H
    · rw [if_pos (c.mpr p1)]
      refine (tpU_none hz hH 2001 0 (by omega) (fun i h1 h2 => ?_)).symm
      have m := mul_np (a := z) (x := -700) (y := (i : Int) - 700) (by omega) (by omega)
      omega
    · rw [if_neg (fun y => p1 (c.mp y))]
      exact (tpU_at hz hH (K := 0) (by omega) 2001 0 (by omega) (by omega) (by omega) (fun i h1 h2 => absurd h2 (by omega))).symm
theorem gPull_e (hz : -2160 ≤ z ∧ z ≤ 2160) (hH : -90000 ≤ H ∧ H ≤ 90000) : gPull (zI z) (zI H) = tpD (zI z) (zI H) 2001 0 := by
  have h0 : 0 < zI z ↔ 0 < z := by rw [show (0 : Int32) = zI 0 from rfl, zI_lt ⟨by omega, by omega⟩ ⟨by omega, by omega⟩]
  unfold gPull
  by_cases p : 0 < z
  · rw [if_pos (h0.mpr p), flDiv_z ⟨by omega, by omega⟩ ⟨p, by omega⟩]
    have key : ∀ u, H < z * u ↔ H / z < u := by
      intro u
      rw [Int.ediv_lt_iff_lt_mul p, Int.mul_comm u z]
    have b1 : -90000 ≤ H / z := by rw [Int.le_ediv_iff_mul_le p]; omega
    have b2 : H / z < 90001 := by rw [Int.ediv_lt_iff_lt_mul p]; omega
    rw [show (200 : Int32) = zI 200 from rfl, zI_add]
    have c1 : -500 ≤ zI (200 + H / z) ↔ -500 ≤ 200 + H / z := by rw [show (-500 : Int32) = zI (-500) from rfl, zI_le ⟨by omega, by omega⟩ ⟨by omega, by omega⟩]
    have c2 : 1500 < zI (200 + H / z) ↔ 1500 < 200 + H / z := by rw [show (1500 : Int32) = zI 1500 from rfl, zI_lt ⟨by omega, by omega⟩ ⟨by omega, by omega⟩]
    by_cases p1 : -500 ≤ 200 + H / z
    · rw [if_pos (c1.mpr p1)]
      by_cases p2 : 1500 < 200 + H / z
      · rw [if_pos (c2.mpr p2)]
        exact (tpD_at hz hH (K := 0) (by rw [key]; omega) 2001 0 (by omega) (by omega) (by omega) (fun i h1 h2 => absurd h2 (by omega))).symm
      · rw [if_neg (fun y => p2 (c2.mp y))]
        have e : ((1300 - H / z).toNat : Int) = 1300 - H / z := Int.toNat_of_nonneg (by omega)
        rw [tpD_at hz hH (K := (1300 - H / z).toNat) (by rw [key]; omega) 2001 0 (by omega) (by omega) (by omega) (fun i h1 h2 => by rw [key]; omega)]
        exact congrArg zI (by omega)
    · rw [if_neg (fun y => p1 (c1.mp y))]
      exact (tpD_none hz hH 2001 0 (by omega) (fun i h1 h2 => by rw [key]; omega)).symm
  · rw [if_neg (fun y => p (h0.mp y)), show zI z * (1500 - 200) = zI (z * 1300) by rw [show (1500 - 200 : Int32) = zI 1300 from rfl, zI_mul]]
    have c := tp_gt hz hH (u := 1300) ⟨by omega, by omega⟩
    by_cases p1 : H < z * 1300
    · rw [if_pos (c.mpr p1)]
      refine (tpD_none hz hH 2001 0 (by omega) (fun i h1 h2 => ?_)).symm
      have m := mul_np (a := z) (x := 1300 - (i : Int)) (y := 1300) (by omega) (by omega)
      omega
    · rw [if_neg (fun y => p1 (c.mp y))]
      exact (tpD_at hz hH (K := 0) (by omega) 2001 0 (by omega) (by omega) (by omega) (fun i h1 h2 => absurd h2 (by omega))).symm
end

