/-! both rows, with their ranges, and at most B ticks; acts -/
def RB (B : Nat) (C R : Nat → Int32) : Prop := Rl C R ∧ C 6 = R 6 ∧ Wf C ∧ ∃ T, T ≤ B ∧ C 9 = nI T
theorem isIn_big {x a b : Int32} (h : isIn x a b = true) (ha : -10000001 < a.toInt) : ¬ x ≤ -10000001 := by
  have z := isIn_z.mp h
  rw [Int32.le_iff_toInt_le]
  have c : (-10000001 : Int32).toInt = -10000001 := rfl
  omega
theorem nI_big {n : Nat} (h : n < 2 ^ 31) : ¬ nI n ≤ -10000001 := by
  rw [Int32.le_iff_toInt_le, nI_toInt h]
  have c : (-10000001 : Int32).toInt = -10000001 := rfl
  omega
theorem zI_big {z : Int} (h1 : -10000001 < z) (h2 : z < 2147483648) : ¬ zI z ≤ -10000001 := by
  rw [Int32.le_iff_toInt_le, zI_t (by omega) h2]
  have c : (-10000001 : Int32).toInt = -10000001 := rfl
  omega
theorem b2i_big (b : Bool) : ¬ b2i b ≤ -10000001 := by cases b <;> decide
section
variable {C R R' : Nat → Int32} {B B' k i j : Nat} {v : Int32}
theorem RB.mono (H : RB B C R) (h : B ≤ B') : RB B' C R := by
  obtain ⟨h1, h2, h3, T, hT, e⟩ := H
  exact ⟨h1, h2, h3, T, by omega, e⟩
theorem Rl.cong (H : Rl C R) (W : Wf C) (e : Eq127 R R') : Rl C R' := by
  refine ⟨fun j hj h6 => (H.1 j hj h6).trans (e j (by omega)), fun k hk i hi => (H.2.1 k hk i hi).trans (e _ (by omega)), fun k hk i hi => (H.2.2.1 k hk i hi).trans (e _ ?_), fun k hk i hi => (H.2.2.2.1 k hk i hi).trans (e _ (by omega)), fun k hk => ⟨(H.2.2.2.2 k hk).1, fun z => ?_⟩⟩
  · have c8 := (W.wfT hk).2.1
    omega
  · have g := (H.2.2.2.2 k hk).2 z
    exact ⟨g.1.trans (e _ (by omega)), g.2.trans (e _ (by omega))⟩
theorem RB.cong (H : RB B C R) (e : Eq127 R R') : RB B C R' := ⟨H.1.cong H.2.2.1 e, H.2.1.trans (e 6 (by decide)), H.2.2⟩
theorem upd_e {a : Nat} (h : C a = R a) : upd C j v a = upd R j v a := by
  rw [upd_app, upd_app]
  by_cases q : a = j
  · rw [if_pos q, if_pos q]
  · rw [if_neg q, if_neg q]; exact h
theorem upd_n {a : Nat} (h : ¬ a = j) : upd C j v a = C a := by rw [upd_app, if_neg h]
theorem upd_s : upd C j v j = v := by rw [upd_app, if_pos rfl]
theorem RB.up1 (H : RB B C R) (h9 : ¬ j = 9) (hc : ∀ k, k < 3 → ¬ 10 + 32 * k = j) (hg : ∀ k, k < 3 → ¬ 111 + 7 * k = j ∧ ¬ 112 + 7 * k = j) (hv : isIn v (rg j).1 (rg j).2 = true) : RB B (upd C j v) (upd R j v) := by
  obtain ⟨H, h6, W, T, hT, e9⟩ := H
  refine ⟨⟨fun a ha h6 => upd_e (H.1 a ha h6), fun k hk i hi => upd_e (H.2.1 k hk i hi), fun k hk i hi => ?_, fun k hk i hi => upd_e (H.2.2.2.1 k hk i hi), fun k hk => ?_⟩, upd_e h6, W.upd hv, T, hT, (upd_n (fun z => h9 z.symm)).trans e9⟩
  · rw [upd_n (hc k hk)] at hi
    exact upd_e (H.2.2.1 k hk i hi)
  · have g := hg k hk
    rw [upd_n (a := 9) (fun z => h9 z.symm), upd_n g.1, upd_n g.2, upd_n g.1, upd_n g.2]
    exact H.2.2.2.2 k hk
theorem RB.bk (H : RB B C R) (hk : k < 3) : (C (10 + 32 * k)).toNatClampNeg = (R (10 + 32 * k)).toNatClampNeg := by rw [H.1.st0 hk]
def ActOk (B : Nat) (v : Bool) (x : Int32) (F : Nat → Int32) (x' : Int32) (F' : Nat → Int32) : Prop := x = x' ∧ (v = false → x' ≤ -10000001) ∧ (v = true → ¬ x' ≤ -10000001 ∧ RB B F F')
theorem ActOk.no {F F' : Nat → Int32} {v : Bool} {x x' : Int32} (hv : v = false) (h : x = x') (h2 : x' ≤ -10000001) : ActOk B v x F x' F' := ⟨h, fun _ => h2, fun z => absurd (hv.symm.trans z) (by decide)⟩
theorem ActOk.yes {F F' : Nat → Int32} {v : Bool} {x x' : Int32} (hv : v = true) (h : x = x') (h2 : ¬ x' ≤ -10000001) (h3 : RB B F F') : ActOk B v x F x' F' := ⟨h, fun z => absurd (hv.symm.trans z) (by decide), fun _ => ⟨h2, h3⟩⟩
theorem and_f {p q : Bool} : (p && q) = false → p = false ∨ (p = true ∧ q = false) := by cases p <;> cases q <;> decide
theorem kOf {x : Int32} (h : isIn x 0 2 = true) : x.toNatClampNeg < 3 := by
  obtain ⟨X, hX, rfl⟩ := isIn0 (B := 2) rfl h
  rw [nI_clamp (by omega)]
  omega
theorem act_metal (H : RB B C R) (x y : Int32) : ActOk B (vMetal x y) (aMetal C x y) (upd C x.toNatClampNeg y) (aMetal R x y) (upd R x.toNatClampNeg y) := by
  cases hv : vMetal x y with
  | false =>
    rw [← hv]
    unfold vMetal at hv
    refine .no (by unfold vMetal; exact hv) ?_ ?_ <;> (unfold aMetal; rcases and_f hv with h | ⟨h, h'⟩)
    · rw [if_neg (by rw [h]; decide), if_neg (by rw [h]; decide)]
    · rw [if_pos h, if_neg (by rw [h']; decide), if_pos h, if_neg (by rw [h']; decide)]
    · rw [if_neg (by rw [h]; decide)]; exact inv_le
    · rw [if_pos h, if_neg (by rw [h']; decide)]; exact inv_le
  | true =>
    rw [← hv]
    unfold vMetal at hv
    rw [Bool.and_eq_true] at hv
    obtain ⟨X, hX, rfl⟩ := isIn0 (B := 5) rfl hv.1
    have c : (nI X).toNatClampNeg = X := nI_clamp (by omega)
    have e : C X = R X := H.1.lo (by omega) (by omega)
    have r : rg X = (0, 30) := by unfold rg; rw [if_pos (by omega)]
    refine .yes (by unfold vMetal; rw [hv.1, hv.2]; rfl) ?_ ?_ ?_
    · unfold aMetal; rw [if_pos hv.1, if_pos hv.2, if_pos hv.1, if_pos hv.2, c, e]
    · unfold aMetal; rw [if_pos hv.1, if_pos hv.2, c, ← e]
      obtain ⟨N, hN, eN⟩ := H.2.2.1.num (j := X) (by omega)
      rw [eN]; exact nI_big (by omega)
    · rw [c]
      exact H.up1 (by omega) (fun k hk => by omega) (fun k hk => ⟨by omega, by omega⟩) (by rw [r]; exact hv.2)
theorem act_outside (H : RB B C R) (x : Int32) : ActOk B (isIn x (-500) 1500) (aOutside C x) (upd C 8 x) (aOutside R x) (upd R 8 x) := by
  have e : C 8 = R 8 := H.1.lo (by omega) (by omega)
  have w : isIn (C 8) (-500) 1500 = true := H.2.2.1 8 (by decide)
  cases hv : isIn x (-500) 1500 with
  | false => exact .no rfl (by unfold aOutside; rw [hv, if_neg (by decide), if_neg (by decide)]) (by unfold aOutside; rw [hv, if_neg (by decide)]; exact inv_le)
  | true => exact .yes rfl (by unfold aOutside; rw [hv, if_pos rfl, if_pos rfl, e]) (by unfold aOutside; rw [hv, if_pos rfl, ← e]; exact isIn_big w (by decide)) (H.up1 (by decide) (fun k hk => by omega) (fun k hk => ⟨by omega, by omega⟩) hv)
theorem act_warm (H : RB B C R) (x y : Int32) : ActOk B (vWarm x y) (aWarm C x y) (upd C (106 + 7 * x.toNatClampNeg) y) (aWarm R x y) (upd R (106 + 7 * x.toNatClampNeg) y) := by
  unfold vWarm aWarm
  cases h : isIn x 0 2 with
  | false => exact .no rfl (by rw [if_neg (by decide), if_neg (by decide)]) (by rw [if_neg (by decide)]; exact inv_le)
  | true =>
    rw [if_pos rfl, if_pos rfl, Bool.true_and]
    cases h2 : isIn y (-500) 1500 with
    | false => exact .no rfl (by rw [if_neg (by decide), if_neg (by decide)]) (by rw [if_neg (by decide)]; exact inv_le)
    | true =>
      have hk := kOf h
      have e := H.1.rmj hk (j := 106 + 7 * x.toNatClampNeg) (by omega) (by omega)
      rw [if_pos rfl, if_pos rfl]
      exact .yes rfl e (by rw [← e]; exact isIn_big (H.2.2.1.wm hk) (by decide)) (H.up1 (by omega) (fun k hk => by omega) (fun k hk => ⟨by omega, by omega⟩) (by rw [show rg (106 + 7 * x.toNatClampNeg) = rgR 0 from rg_R (k := x.toNatClampNeg) (i := 0) (by decide)]; exact h2))
theorem act_set (H : RB B C R) (x y : Int32) : ActOk B (isSet x y) (aSet C x y) (upd C (6 + x.toNatClampNeg) y) (aSet R x y) (upd R (6 + x.toNatClampNeg) y) := by
  unfold aSet
  cases h : isSet x y with
  | false => exact .no rfl (by rw [if_neg (by decide), if_neg (by decide)]) (by rw [if_neg (by decide)]; exact inv_le)
  | true =>
    rw [if_pos rfl, if_pos rfl]
    unfold isSet at h
    by_cases q : x = 0
    · subst q
      rw [if_pos rfl] at h
      have e : C 6 = R 6 := H.2.1
      have w : isIn (C 6) 0 99 = true := H.2.2.1 6 (by decide)
      exact .yes rfl e (by show ¬ R 6 ≤ _; rw [← e]; exact isIn_big w (by decide)) (H.up1 (j := 6) (by decide) (fun k hk => by omega) (fun k hk => ⟨by omega, by omega⟩) h)
    · rw [if_neg q, Bool.and_eq_true, decide_eq_true_eq] at h
      obtain ⟨rfl, h⟩ := h
      have e : C 7 = R 7 := H.1.lo (by decide) (by decide)
      have w := H.2.2.1.s7
      exact .yes rfl e (by show ¬ R 7 ≤ _; rw [← e]; exact isIn_big w (by decide)) (H.up1 (j := 7) (by decide) (fun k hk => by omega) (fun k hk => ⟨by omega, by omega⟩) h)
end

