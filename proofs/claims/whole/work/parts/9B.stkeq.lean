/-! stacks: three parts, the least row, the answers -/
section
variable {R : Nat → Int32} {Nf : Nat → Nat}
theorem cbG_iff {iw ip : Nat → Int32} {T b : Int32} : ∀ r k, cbG iw ip T b r k = true ↔ ∃ i, k ≤ i ∧ i < k + r ∧ hitB iw ip T b i = true
  | 0, k => ⟨fun h => absurd (show false = true from h) (by decide), fun ⟨i, h1, h2, _⟩ => absurd h2 (by omega)⟩
  | r + 1, k => by
    unfold cbG
    by_cases q : hitB iw ip T b k = true
    · rw [if_pos q]
      exact ⟨fun _ => ⟨k, by omega, by omega, q⟩, fun _ => rfl⟩
    · rw [if_neg q, cbG_iff r (k + 1)]
      refine ⟨fun ⟨i, h1, h2, h3⟩ => ⟨i, by omega, by omega, h3⟩, fun ⟨i, h1, h2, h3⟩ => ⟨i, ?_, by omega, h3⟩⟩
      by_cases e : i = k
      · subst e; exact absurd h3 q
      · omega
theorem hit_z (hN : Nm Nf) (hR : ∀ j, j < 6 → R j = nI (Nf j)) {t b : Int} (ht : -900 ≤ t ∧ t ≤ 900) (hb : -90000 ≤ b ∧ b ≤ 90000) {i : Nat} (hi : i < 549) : hitB (iwC R) (ipC R) (zI t) (zI b) i = true ↔ ∃ p, p < 36 ∧ dz Nf p = ((i % 61 : Nat) : Int) - 30 ∧ canZ Nf 2 (t - (i / 61 + 1 : Nat)) (b - (i / 61 + 1 : Nat) * dz Nf p) := by
  unfold hitB
  have e1 : zI t - nI (i / 61) - 1 = zI (t - (i / 61 + 1 : Nat)) := by
    rw [zI_n, show (1 : Int32) = zI 1 from rfl, zI_sub, zI_sub]
    exact congrArg zI (by omega)
  have e2 : zI b - nI (i / 61 + 1) * (nI (i % 61) - 30) = zI (b - (i / 61 + 1 : Nat) * (((i % 61 : Nat) : Int) - 30)) := by
    rw [zI_n, zI_n, show (30 : Int32) = zI 30 from rfl, zI_sub, zI_mul, zI_sub]
  have m := ld_bd (l := i / 61 + 1) (x := ((i % 61 : Nat) : Int) - 30) (by omega) ⟨by omega, by omega⟩
  rw [iw_ne, Bool.and_eq_true, way_z hN hR (by omega), e1, e2, db_z hN hR ⟨by omega, by omega⟩ ⟨by omega, by omega⟩]
  refine ⟨fun ⟨⟨p, hp, e⟩, h⟩ => ⟨p, hp, e, by rw [e]; exact h⟩, fun ⟨p, hp, e, h⟩ => ⟨⟨p, hp, e⟩, by rw [← e]; exact h⟩⟩
theorem cb_z (hN : Nm Nf) (hR : ∀ j, j < 6 → R j = nI (Nf j)) {P : Nat} (hP : P ≤ 3) {t b : Int} (ht : -900 ≤ t ∧ t ≤ 900) (hb : -90000 ≤ b ∧ b ≤ 90000) : cbB (iwC R) (ipC R) P (zI t) (zI b) = true ↔ canZ Nf P t b := by
  unfold cbB
  have : P = 0 ∨ P = 1 ∨ P = 2 ∨ P = 3 := by omega
  rcases this with rfl | rfl | rfl | rfl
  · rw [if_pos rfl, Bool.and_eq_true, decide_eq_true_eq, decide_eq_true_eq, show (0 : Int32) = zI 0 from rfl, zI_eq ⟨by omega, by omega⟩ ⟨by omega, by omega⟩, zI_eq ⟨by omega, by omega⟩ ⟨by omega, by omega⟩]
    exact Iff.rfl
  · rw [if_neg (by decide), if_pos rfl]
    exact sg_z hN hR ⟨by omega, by omega⟩ ⟨by omega, by omega⟩
  · rw [if_neg (by decide), if_neg (by decide), if_pos rfl]
    exact db_z hN hR ⟨by omega, by omega⟩ ⟨by omega, by omega⟩
  · rw [if_neg (by decide), if_neg (by decide), if_neg (by decide), cbG_iff]
    refine ⟨fun ⟨i, _, h2, h⟩ => ?_, fun h => ?_⟩
    · obtain ⟨p, hp, e, h⟩ := (hit_z hN hR ht hb (by omega)).mp h
      exact ⟨i / 61 + 1, p, by omega, by omega, hp, h⟩
    · obtain ⟨l, p, l1, l9, hp, h⟩ := h
      have b := dz_bd hN hp
      have eo : ((dz Nf p + 30).toNat : Int) = dz Nf p + 30 := Int.toNat_of_nonneg (by omega)
      have o1 : (61 * (l - 1) + (dz Nf p + 30).toNat) / 61 + 1 = l := by omega
      have o2 : (61 * (l - 1) + (dz Nf p + 30).toNat) % 61 = (dz Nf p + 30).toNat := by omega
      refine ⟨61 * (l - 1) + (dz Nf p + 30).toNat, by omega, by omega, (hit_z hN hR ht hb (by omega)).mpr ⟨p, hp, ?_, ?_⟩⟩
      · rw [o2, eo]; omega
      · rw [o1]; exact h
theorem cb_zf (hN : Nm Nf) (hR : ∀ j, j < 6 → R j = nI (Nf j)) {P : Nat} (hP : P ≤ 3) {t b : Int} (ht : -900 ≤ t ∧ t ≤ 900) (hb : -90000 ≤ b ∧ b ≤ 90000) : cbB (iwC R) (ipC R) P (zI t) (zI b) = false ↔ ¬ canZ Nf P t b := by
  rw [← cb_z hN hR hP ht hb]
  cases cbB (iwC R) (ipC R) P (zI t) (zI b) <;> decide
theorem bnO_z (hR : ∀ j, j < 6 → R j = nI (Nf j)) {k : Nat} (_hk : k < 324) : bnO R k = zI ((k / 36 + 1 : Nat) * dz Nf (k % 36)) := by
  unfold bnO dz
  rw [hR (k / 6 % 6) (by omega), hR (k % 6) (by omega), zI_n, zI_n, zI_n, zI_sub, zI_mul, show k % 36 / 6 = k / 6 % 6 by omega, show k % 36 % 6 = k % 6 by omega]
def LZf (T : Int) (kk : Nat → Nat) : Nat → Int
  | 0 => T
  | n + 1 => LZf T kk n - (kk n / 36 + 1 : Nat)
def RZf (Nf : Nat → Nat) (b : Int) (kk : Nat → Nat) : Nat → Int
  | 0 => b
  | n + 1 => RZf Nf b kk n - (kk n / 36 + 1 : Nat) * dz Nf (kk n % 36)
theorem RowC_z (hN : Nm Nf) (hR : ∀ j, j < 6 → R j = nI (Nf j)) {P T : Nat} {b : Int} {kk : Nat → Nat} (hP : P ≤ 3) (hT : T ≤ 27) (hb : -900 ≤ b ∧ b ≤ 900) (h : RowC R P T (zI b) kk) : ∃ LT RS, RowZ Nf P T b kk LT RS := by
  obtain ⟨LT, RS, h0, h1, h⟩ := h
  have key : ∀ n, n ≤ P → LT n = zI (LZf T kk n) ∧ RS n = zI (RZf Nf b kk n) ∧ (-9 * (n : Int) ≤ LZf T kk n ∧ LZf T kk n ≤ 27) ∧ (-900 - 270 * (n : Int) ≤ RZf Nf b kk n ∧ RZf Nf b kk n ≤ 900 + 270 * (n : Int)) := by
    intro n
    induction n with
    | zero =>
      intro _
      refine ⟨h0, h1, ⟨?_, ?_⟩, ?_, ?_⟩
      · show -9 * ((0 : Nat) : Int) ≤ (T : Int); omega
      · show (T : Int) ≤ 27; omega
      · show -900 - 270 * ((0 : Nat) : Int) ≤ b; omega
      · show b ≤ 900 + 270 * ((0 : Nat) : Int); omega
    | succ n ih =>
      intro hn
      obtain ⟨a1, a2, a3, a4⟩ := ih (by omega)
      obtain ⟨b1, -, -, b4, b5⟩ := h n (by omega)
      have m := ld_bd (l := kk n / 36 + 1) (x := dz Nf (kk n % 36)) (by omega) (dz_bd hN (by omega))
      refine ⟨?_, ?_, ⟨?_, ?_⟩, ?_, ?_⟩
      · rw [b4, a1, zI_n, zI_sub]; rfl
      · rw [b5, a2, bnO_z hR b1, zI_sub]; rfl
      · show -9 * ((n + 1 : Nat) : Int) ≤ LZf T kk n - (kk n / 36 + 1 : Nat); omega
      · show LZf T kk n - (kk n / 36 + 1 : Nat) ≤ 27; omega
      · show -900 - 270 * ((n + 1 : Nat) : Int) ≤ RZf Nf b kk n - (kk n / 36 + 1 : Nat) * dz Nf (kk n % 36); omega
      · show RZf Nf b kk n - (kk n / 36 + 1 : Nat) * dz Nf (kk n % 36) ≤ 900 + 270 * ((n + 1 : Nat) : Int); omega
  refine ⟨LZf T kk, RZf Nf b kk, rfl, rfl, fun n hn => ?_⟩
  obtain ⟨a1, a2, a3, a4⟩ := key n (by omega)
  obtain ⟨b1, b2, b3, -, -⟩ := h n hn
  have way : ∀ k, k < 324 → LT n - nI (k / 36 + 1) = zI (LZf T kk n - (k / 36 + 1 : Nat)) ∧ RS n - bnO R k = zI (RZf Nf b kk n - (k / 36 + 1 : Nat) * dz Nf (k % 36)) ∧ (-270 ≤ ((k / 36 + 1 : Nat) : Int) * dz Nf (k % 36) ∧ ((k / 36 + 1 : Nat) : Int) * dz Nf (k % 36) ≤ 270) := by
    intro k hk
    refine ⟨?_, ?_, ld_bd (l := k / 36 + 1) (x := dz Nf (k % 36)) (by omega) (dz_bd hN (by omega))⟩
    · rw [a1, zI_n, zI_sub]
    · rw [a2, bnO_z hR hk, zI_sub]
  refine ⟨b1, ?_, fun k hk => ?_, rfl, rfl⟩
  · obtain ⟨w1, w2, w3⟩ := way (kk n) b1
    rw [w1, w2, cb_z hN hR (by omega) ⟨by omega, by omega⟩ ⟨by omega, by omega⟩] at b2
    exact b2
  · obtain ⟨w1, w2, w3⟩ := way k (by omega)
    have b3 := b3 k hk
    rw [w1, w2, cb_zf hN hR (by omega) ⟨by omega, by omega⟩ ⟨by omega, by omega⟩] at b3
    exact b3
theorem RowZ_c (hN : Nm Nf) (hR : ∀ j, j < 6 → R j = nI (Nf j)) {P T : Nat} {b : Int} {kk : Nat → Nat} {LT RS : Nat → Int} (hP : P ≤ 3) (hT : T ≤ 27) (hb : -900 ≤ b ∧ b ≤ 900) (h : RowZ Nf P T b kk LT RS) : RowC R P T (zI b) kk := by
  refine ⟨fun n => zI (LT n), fun n => zI (RS n), congrArg zI h.1, congrArg zI h.2.1, fun n hn => ?_⟩
  obtain ⟨b1, b2, b3, b4, b5⟩ := h.2.2 n hn
  have l1 := RowZ_LT hN h hn
  have l2 := RowZ_LT2 h n (by omega)
  have r1 := RowZ_RS hN h n (by omega)
  have way : ∀ k, k < 324 → zI (LT n) - nI (k / 36 + 1) = zI (LT n - (k / 36 + 1 : Nat)) ∧ zI (RS n) - bnO R k = zI (RS n - (k / 36 + 1 : Nat) * dz Nf (k % 36)) ∧ (-270 ≤ ((k / 36 + 1 : Nat) : Int) * dz Nf (k % 36) ∧ ((k / 36 + 1 : Nat) : Int) * dz Nf (k % 36) ≤ 270) := by
    intro k hk
    refine ⟨?_, ?_, ld_bd (l := k / 36 + 1) (x := dz Nf (k % 36)) (by omega) (dz_bd hN (by omega))⟩
    · rw [zI_n, zI_sub]
    · rw [bnO_z hR hk, zI_sub]
  obtain ⟨w1, w2, w3⟩ := way (kk n) b1
  refine ⟨b1, ?_, fun k hk => ?_, ?_, ?_⟩
  · show cbB (iwC R) (ipC R) (P - n - 1) (zI (LT n) - nI (kk n / 36 + 1)) (zI (RS n) - bnO R (kk n)) = true
    rw [w1, w2, cb_z hN hR (by omega) ⟨by omega, by omega⟩ ⟨by omega, by omega⟩]
    exact b2
  · obtain ⟨v1, v2, v3⟩ := way k (by omega)
    show cbB (iwC R) (ipC R) (P - n - 1) (zI (LT n) - nI (k / 36 + 1)) (zI (RS n) - bnO R k) = false
    rw [v1, v2, cb_zf hN hR (by omega) ⟨by omega, by omega⟩ ⟨by omega, by omega⟩]
    exact b3 k hk
  · show zI (LT (n + 1)) = zI (LT n) - nI (kk n / 36 + 1)
    rw [w1, b4]
  · show zI (RS (n + 1)) = zI (RS n) - bnO R (kk n)
    rw [w2, b5]
end
