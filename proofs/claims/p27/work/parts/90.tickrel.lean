/-! ranges behind a tick; ticks one behind the other -/
theorem plc {j : Nat} (h : j < 127) : j < 10 ∨ (∃ k i, k < 3 ∧ i < 8 ∧ j = 10 + 32 * k + i) ∨ (∃ k i, k < 3 ∧ i < 24 ∧ j = 18 + 32 * k + i) ∨ ∃ k i, k < 3 ∧ i < 7 ∧ j = 106 + 7 * k + i := by
  by_cases q : j < 10
  · exact Or.inl q
  by_cases q2 : j < 106
  · by_cases q3 : (j - 10) % 32 < 8
    · exact Or.inr (Or.inl ⟨(j - 10) / 32, (j - 10) % 32, by omega, q3, by omega⟩)
    · exact Or.inr (Or.inr (Or.inl ⟨(j - 10) / 32, (j - 10) % 32 - 8, by omega, by omega, by omega⟩))
  · exact Or.inr (Or.inr (Or.inr ⟨(j - 106) / 7, (j - 106) % 7, by omega, by omega, by omega⟩))
theorem eightC {i : Nat} (h : i < 8) : i = 0 ∨ i = 1 ∨ i = 2 ∨ i = 3 ∨ i = 4 ∨ i = 5 ∨ i = 6 ∨ i = 7 := by omega
theorem chSi_in {lo hi la pu si b : Int32} (h : isIn si 0 1 = true) : isIn (chSi lo hi la pu si b) 0 1 = true := by
  unfold chSi
  rcases Wf.one h with rfl | rfl <;> (repeat' split) <;> decide
theorem chPu_in {lo hi la pu si b : Int32} (h : isIn pu 0 5 = true) (h2 : isIn la 0 5 = true) : isIn (chPu lo hi la pu si b) 0 5 = true := by
  obtain ⟨P, hP, rfl⟩ := isIn0 (B := 5) rfl h
  obtain ⟨L, hL, rfl⟩ := isIn0 (B := 5) rfl h2
  unfold chPu
  split
  · decide
  · split
    · decide
    · rename_i q
      rw [nI_leI (by omega) (by omega)] at q
      rw [nI_1]
      have : P + 1 = 1 ∨ P + 1 = 2 ∨ P + 1 = 3 ∨ P + 1 = 4 ∨ P + 1 = 5 := by omega
      rcases this with e | e | e | e | e <;> rw [e] <;> decide
theorem tireF_in {sn hi lo un y : Int32} (h1 : isIn hi (-90000) 90000 = true) (h2 : isIn lo (-90000) 90000 = true) (h3 : isIn y 1 999 = true) : isIn (tireF sn hi lo un y) (-90000) 90000 = true := by
  have z1 := isIn_z.mp h1
  have z2 := isIn_z.mp h2
  have z3 := isIn_z.mp h3
  have c1 : (-90000 : Int32).toInt = -90000 := rfl
  have c2 : (90000 : Int32).toInt = 90000 := rfl
  have c3 : (1 : Int32).toInt = 1 := rfl
  have c4 : (999 : Int32).toInt = 999 := rfl
  rw [c1, c2] at z1 z2
  rw [c3, c4] at z3
  have e : hi - y = zI (hi.toInt - y.toInt) := by rw [← zI_sub, ← zI_of, ← zI_of]
  have t : (hi - y).toInt = hi.toInt - y.toInt := by rw [e]; exact zI_t (by omega) (by omega)
  unfold tireF
  split
  · exact h1
  · split
    · exact h1
    · split
      · exact h1
      · rename_i q
        rw [Int32.le_iff_toInt_le, t] at q
        refine isIn_z.mpr ?_
        rw [t, c1, c2]
        omega
section
variable {C R r : Nat → Int32} {k i j : Nat} {un : Int32}
theorem Wf.s7 (W : Wf C) : isIn (C 7) 1 999 = true := W 7 (by decide)
theorem Wf.tk (W : Wf C) : Wf (tkS C r) := by
  intro j hj
  rcases plc hj with h | ⟨k, i, hk, hi, rfl⟩ | ⟨k, i, hk, hi, rfl⟩ | ⟨k, i, hk, hi, rfl⟩
  · by_cases q : j = 9
    · subst q; exact isIn_f _
    · rw [tsO q (fun k hk => ⟨by omega, by omega⟩)]
      exact W j hj
  · rw [tsT hk hi, rg_S hk (by omega)]
    have g := fun i (hi : i < 8) => W.S hk (i := i) (by omega)
    rcases eightC hi with rfl | rfl | rfl | rfl | rfl | rfl | rfl | rfl
    · exact g 0 (by decide)
    · exact g 1 (by decide)
    · show isIn (if mvU (fun i => C (10 + 32 * k + i)) _ = true then tireF (C (10 + 32 * k + 6) + 1) (C (10 + 32 * k + 2)) (C (10 + 32 * k + 1)) (C 6) (C 7) else C (10 + 32 * k + 2)) (-90000) 90000 = true
      split
      · exact tireF_in (g 2 (by decide)) (g 1 (by decide)) W.s7
      · exact g 2 (by decide)
    · exact g 3 (by decide)
    · exact chSi_in (g 4 (by decide))
    · exact chPu_in (g 5 (by decide)) (g 3 (by decide))
    · exact isIn_f _
    · exact g 7 (by decide)
  · rw [tsO (by omega) (fun k' hk' => ⟨by omega, by omega⟩)]
    exact W _ hj
  · rw [tsR hk hi, rg_R hi]
    have g := fun i (hi : i < 7) => W.R hk (i := i) hi
    have : i = 0 ∨ i = 1 ∨ i = 2 ∨ i = 3 ∨ i = 4 ∨ i = 5 ∨ i = 6 := by omega
    rcases this with rfl | rfl | rfl | rfl | rfl | rfl | rfl
    · exact wtc_in C k
    · have h := g 1 (by decide)
      rw [show 106 + 7 * k + 1 = 107 + 7 * k by omega] at h
      exact h
    · have h := g 2 (by decide)
      rw [show 106 + 7 * k + 2 = 108 + 7 * k by omega] at h
      exact h
    · have h := g 3 (by decide)
      rw [show 106 + 7 * k + 3 = 109 + 7 * k by omega] at h
      exact h
    · exact isIn_f _
    · exact isIn_f _
    · exact isIn_f _
theorem Wf.tkDn (W : Wf C) : ∀ n, Wf (tkD C r n)
  | 0 => W
  | n + 1 => (Wf.tkDn W n).tk
theorem tkD_6 : ∀ n, tkD C r n 6 = C 6
  | 0 => rfl
  | n + 1 => (tsO (by decide) (fun k hk => ⟨by omega, by omega⟩)).trans (tkD_6 n)
theorem tkD_9 {T : Nat} (h : C 9 = nI T) : ∀ n, tkD C r n 9 = nI (T + n)
  | 0 => h
  | n + 1 => ts9.trans (by rw [tkD_9 h n, nI_1]; rfl)
theorem Rl.tkDn (H : Rl C R) (W : Wf C) {T : Nat} (h9 : C 9 = nI T) (hu : C 6 = un) : ∀ n, T + n < 2 ^ 31 → Rl (tkD C r n) (tkI R r un n)
  | 0, _ => H
  | n + 1, hn => (Rl.tkDn H W h9 hu n (by omega)).tk (W.tkDn n) (tkD_9 h9 n) (by omega) ((tkD_6 n).trans hu)
theorem Rl.tkEn (H : Rl C R) (W : Wf C) {T : Nat} (h9 : C 9 = nI T) (hu : C 6 = un) : ∀ n, T + n < 2 ^ 31 → tkE C r n = tkC R r un n
  | 0, _ => rfl
  | n + 1, hn => by
    show tkE C r n + tkN (tkD C r n) r = tkC R r un n + tkMN (tkI R r un n) r un
    rw [Rl.tkEn H W h9 hu n (by omega), (Rl.tkDn H W h9 hu n (by omega)).tkNE (un := un)]
theorem tkI_r {q : Nat → Int32} (h : ∀ k, k < 3 → r k = q k) : ∀ n, tkI R r un n = tkI R q un n
  | 0 => rfl
  | n + 1 => by
    show tkM (tkI R r un n) r un = tkM (tkI R q un n) q un
    rw [tkI_r h n, tkM_r h]
theorem tkC_r {q : Nat → Int32} (h : ∀ k, k < 3 → r k = q k) : ∀ n, tkC R r un n = tkC R q un n
  | 0 => rfl
  | n + 1 => by
    show tkC R r un n + tkMN (tkI R r un n) r un = tkC R q un n + tkMN (tkI R q un n) q un
    rw [tkC_r h n, tkI_r h n, tkMN_r h]
theorem b2i_n (b : Bool) : ∃ m, m ≤ 1 ∧ b2i b = nI m := by
  cases b
  · exact ⟨0, by decide, rfl⟩
  · exact ⟨1, by decide, rfl⟩
theorem tkE_n : ∀ n, ∃ m, m ≤ 3 * n ∧ tkE C r n = nI m
  | 0 => ⟨0, by decide, rfl⟩
  | n + 1 => by
    obtain ⟨m, hm, e⟩ := tkE_n n
    obtain ⟨x, hx, ex⟩ := b2i_n (chK (tkD C r n) r 0)
    obtain ⟨y, hy, ey⟩ := b2i_n (chK (tkD C r n) r 1)
    obtain ⟨z, hz, ez⟩ := b2i_n (chK (tkD C r n) r 2)
    refine ⟨m + (x + y + z), by omega, ?_⟩
    show tkE C r n + tkN (tkD C r n) r = _
    rw [tsN, e, ex, ey, ez, Int32.zero_add, nI_add, nI_add, nI_add]
end

