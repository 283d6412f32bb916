/-! stacks: the reference's words and the whole-number picture -/
section
variable {R : Nat → Int32} {Nf : Nat → Nat}
theorem wayIx_z (hR : ∀ j, j < 6 → R j = nI (Nf j)) {k : Nat} (hk : k < 36) : wayIx R k = zI (dz Nf k + 30) := by
  unfold wayIx dz
  rw [hR (k / 6) (by omega), hR (k % 6) (by omega), zI_n, zI_n, show (30 : Int32) = zI 30 from rfl, zI_sub, zI_add]
theorem way_z (hN : Nm Nf) (hR : ∀ j, j < 6 → R j = nI (Nf j)) {i : Nat} (hi : i < 61) : wayB R i = true ↔ ∃ k, k < 36 ∧ dz Nf k = (i : Int) - 30 := by
  unfold wayB
  rw [anyB_iff]
  refine ⟨fun ⟨k, hk, h⟩ => ⟨k, hk, ?_⟩, fun ⟨k, hk, h⟩ => ⟨k, hk, ?_⟩⟩
  · have b := dz_bd hN hk
    rw [decide_eq_true_eq, wayIx_z hR hk, zI_n, zI_eq ⟨by omega, by omega⟩ ⟨by omega, by omega⟩] at h
    omega
  · rw [decide_eq_true_eq, wayIx_z hR hk, h, zI_n]
    exact congrArg zI (by omega)
theorem iw_ne {i : Nat} : (!(decide (iwC R i = 0))) = wayB R i := by
  unfold iwC
  cases wayB R i <;> rfl
theorem ip_ne {i : Nat} : (!(decide (ipC R i = 0))) = pairB R i := by
  unfold ipC
  cases pairB R i <;> rfl
theorem isIn_zi {z a b : Int} {A B : Int32} (hA : A.toInt = a) (hB : B.toInt = b) (h : -2147483648 ≤ z ∧ z < 2147483648) : isIn (zI z) A B = true ↔ a ≤ z ∧ z ≤ b := by rw [isIn_z, zI_t h.1 h.2, hA, hB]
theorem zI_nat {z : Int} (h : 0 ≤ z) (h2 : z < 2147483648) : (zI z).toNatClampNeg = z.toNat := by
  have e : ((z.toNat : Nat) : Int) = z := Int.toNat_of_nonneg h
  rw [← e, ← zI_n, nI_clamp (by omega)]
  omega
theorem sg_z (hN : Nm Nf) (hR : ∀ j, j < 6 → R j = nI (Nf j)) {t b : Int} (ht : -1000 ≤ t ∧ t ≤ 1000) (hb : -100000 ≤ b ∧ b ≤ 100000) : sgB (iwC R) (zI t) (zI b) = true ↔ canZ Nf 1 t b := by
  unfold sgB
  rw [iw_ne, Bool.and_eq_true, Bool.and_eq_true, Bool.and_eq_true, decide_eq_true_eq, isIn_zi (a := 1) (b := 9) rfl rfl ⟨by omega, by omega⟩]
  refine ⟨fun ⟨h1, h2, h3, h4⟩ => ?_, fun h => ?_⟩
  · have u := zI_of (zI b / zI t)
    have r := isIn_z.mp h3
    have c1 : (-30 : Int32).toInt = -30 := rfl
    have c2 : (30 : Int32).toInt = 30 := rfl
    rw [c1, c2] at r
    generalize (zI b / zI t).toInt = v at u r
    rw [u, zI_mul, zI_sub, show (0 : Int32) = zI 0 from rfl] at h2
    have m : -270 ≤ v * t ∧ v * t ≤ 270 := by
      have q : v.natAbs * t.natAbs ≤ 30 * 9 := Nat.mul_le_mul (by omega) (by omega)
      rw [← Int.natAbs_mul] at q
      omega
    rw [zI_eq ⟨by omega, by omega⟩ ⟨by omega, by omega⟩] at h2
    rw [u, show (30 : Int32) = zI 30 from rfl, zI_add, zI_nat (by omega) (by omega), way_z hN hR (by omega)] at h4
    obtain ⟨k, hk, e⟩ := h4
    refine ⟨t.toNat, k, by omega, by omega, hk, ?_, ?_⟩
    · omega
    · have e' : dz Nf k = v := by omega
      have et : ((t.toNat : Nat) : Int) = t := Int.toNat_of_nonneg (by omega)
      rw [e', et, Int.mul_comm t v]
      omega
  · obtain ⟨l, p, l1, l9, hp, h0, h2⟩ := h
    have bd := dz_bd hN hp
    have et : t = (l : Int) := by omega
    have eb : b = (l : Int) * dz Nf p := by omega
    have m := ld_bd l9 bd
    have dv : zI b / zI t = zI (dz Nf p) := by
      rw [et, eb, tdiv_z ⟨by omega, by omega⟩ ⟨by omega, by omega⟩, Int.mul_tdiv_cancel_left _ (by omega)]
    rw [dv]
    refine ⟨by omega, ?_, (isIn_zi (a := -30) (b := 30) rfl rfl ⟨by omega, by omega⟩).mpr bd, ?_⟩
    · rw [zI_mul, zI_sub, et, eb, Int.mul_comm (l : Int), Int.sub_self]
      rfl
    · rw [show (30 : Int32) = zI 30 from rfl, zI_add, zI_nat (by omega) (by omega), way_z hN hR (by omega)]
      exact ⟨p, hp, by omega⟩
theorem pIx_z {o w : Nat} (ho : o < 549) (hw : w < 549) : (pIx o w : Int) = 1081 * (((o / 61 + 1 : Nat) : Int) + ((w / 61 + 1 : Nat) : Int) - 2) + ((o / 61 + 1 : Nat) : Int) * (((o % 61 : Nat) : Int) - 30) + ((w / 61 + 1 : Nat) : Int) * (((w % 61 : Nat) : Int) - 30) + 540 := by
  have a1 : o / 61 ≤ 8 := by omega
  have a2 : w / 61 ≤ 8 := by omega
  unfold pIx
  generalize o / 61 = x at *
  generalize w / 61 = y at *
  generalize o % 61 = u at *
  generalize w % 61 = v at *
  have e : ((540 - 30 * (x + y + 2) : Nat) : Int) = 540 - 30 * ((x : Int) + y + 2) := by omega
  simp only [Int.natCast_add, Int.natCast_mul, e, Int.mul_sub, Int.add_mul, Int.mul_add, Int.sub_mul, Int.one_mul, Int.cast_ofNat_Int]
  omega
theorem pair_z (hN : Nm Nf) (hR : ∀ j, j < 6 → R j = nI (Nf j)) {j : Nat} : pairB R j = true ↔ ∃ l p l' p' : Nat, 1 ≤ l ∧ l ≤ 9 ∧ p < 36 ∧ 1 ≤ l' ∧ l' ≤ 9 ∧ p' < 36 ∧ (j : Int) = 1081 * ((l : Int) + l' - 2) + l * dz Nf p + l' * dz Nf p' + 540 := by
  unfold pairB
  rw [anyB_iff]
  refine ⟨fun ⟨o, ho, h⟩ => ?_, fun ⟨l, p, l', p', l1, l9, hp, m1, m9, hp', e⟩ => ?_⟩
  · unfold pairP at h
    rw [Bool.and_eq_true, anyB_iff, way_z hN hR (by omega)] at h
    obtain ⟨⟨p, hp, ep⟩, w, hw, h⟩ := h
    unfold pairQ at h
    rw [Bool.and_eq_true, way_z hN hR (by omega), decide_eq_true_eq] at h
    obtain ⟨⟨p', hp', ep'⟩, h⟩ := h
    refine ⟨o / 61 + 1, p, w / 61 + 1, p', by omega, by omega, hp, by omega, by omega, hp', ?_⟩
    rw [← h, pIx_z ho hw, ep, ep']
  · have b := dz_bd hN hp
    have b' := dz_bd hN hp'
    have eo : ((dz Nf p + 30).toNat : Int) = dz Nf p + 30 := Int.toNat_of_nonneg (by omega)
    have ew : ((dz Nf p' + 30).toNat : Int) = dz Nf p' + 30 := Int.toNat_of_nonneg (by omega)
    have o1 : (61 * (l - 1) + (dz Nf p + 30).toNat) / 61 + 1 = l := by omega
    have o2 : (61 * (l - 1) + (dz Nf p + 30).toNat) % 61 = (dz Nf p + 30).toNat := by omega
    have w1 : (61 * (l' - 1) + (dz Nf p' + 30).toNat) / 61 + 1 = l' := by omega
    have w2 : (61 * (l' - 1) + (dz Nf p' + 30).toNat) % 61 = (dz Nf p' + 30).toNat := by omega
    refine ⟨61 * (l - 1) + (dz Nf p + 30).toNat, by omega, ?_⟩
    unfold pairP
    rw [Bool.and_eq_true, anyB_iff, o2, way_z hN hR (by omega)]
    refine ⟨⟨p, hp, by omega⟩, 61 * (l' - 1) + (dz Nf p' + 30).toNat, by omega, ?_⟩
    unfold pairQ
    rw [Bool.and_eq_true, w2, way_z hN hR (by omega), decide_eq_true_eq]
    refine ⟨⟨p', hp', by omega⟩, ?_⟩
    have z := pIx_z (o := 61 * (l - 1) + (dz Nf p + 30).toNat) (w := 61 * (l' - 1) + (dz Nf p' + 30).toNat) (by omega) (by omega)
    rw [o1, o2, w1, w2, eo, ew, show dz Nf p + 30 - 30 = dz Nf p by omega, show dz Nf p' + 30 - 30 = dz Nf p' by omega, ← e] at z
    omega
theorem db_z (hN : Nm Nf) (hR : ∀ j, j < 6 → R j = nI (Nf j)) {t b : Int} (ht : -1000 ≤ t ∧ t ≤ 1000) (hb : -100000 ≤ b ∧ b ≤ 100000) : dbB (ipC R) (zI t) (zI b) = true ↔ canZ Nf 2 t b := by
  unfold dbB
  rw [ip_ne, Bool.and_eq_true, Bool.and_eq_true, isIn_zi (a := 2) (b := 18) rfl rfl ⟨by omega, by omega⟩, isIn_zi (a := -540) (b := 540) rfl rfl ⟨by omega, by omega⟩]
  have ix : 1081 * (zI t - 2) + zI b + 540 = zI (1081 * (t - 2) + b + 540) := by
    rw [show (1081 : Int32) = zI 1081 from rfl, show (2 : Int32) = zI 2 from rfl, show (540 : Int32) = zI 540 from rfl, zI_sub, zI_mul, zI_add, zI_add]
  rw [ix]
  refine ⟨fun ⟨h1, h2, h3⟩ => ?_, fun h => ?_⟩
  · have ej : ((1081 * (t - 2) + b + 540).toNat : Int) = 1081 * (t - 2) + b + 540 := Int.toNat_of_nonneg (by omega)
    rw [zI_nat (by omega) (by omega), pair_z hN hR, ej] at h3
    obtain ⟨l, p, l', p', l1, l9, hp, m1, m9, hp', e⟩ := h3
    have b1 := ld_bd l9 (dz_bd hN hp)
    have b2 := ld_bd m9 (dz_bd hN hp')
    refine ⟨l, p, l1, l9, hp, l', p', m1, m9, hp', ?_, ?_⟩ <;> omega
  · obtain ⟨l, p, l1, l9, hp, l', p', m1, m9, hp', e1, e2⟩ := h
    have b1 := ld_bd l9 (dz_bd hN hp)
    have b2 := ld_bd m9 (dz_bd hN hp')
    refine ⟨by omega, by omega, ?_⟩
    have ej : ((1081 * (t - 2) + b + 540).toNat : Int) = 1081 * (t - 2) + b + 540 := Int.toNat_of_nonneg (by omega)
    rw [zI_nat (by omega) (by omega), pair_z hN hR, ej]
    exact ⟨l, p, l', p', l1, l9, hp, m1, m9, hp', by omega⟩
end
