/-! acts: cut, bounds, tick; the history -/
section
variable {C R R' : Nat → Int32} {B B' k i j : Nat} {v : Int32}
theorem shS_s0 {s : Nat → Int32} {o N i : Nat} : shS s o N i o = nI (N - i) := by unfold shS; rw [if_pos rfl]
theorem shS_o {s : Nat → Int32} {o N i : Nat} (h : ¬ j = o) (h2 : j < o + 8 + 3 * (N - i) ∨ o + 8 + 3 * N ≤ j) : shS s o N i j = s j := by unfold shS; rw [if_neg h, if_neg (by omega)]
theorem nI_in08 {N : Nat} (h : N ≤ 8) : isIn (nI N) 0 8 = true := by
  refine isIn_z.mpr ?_
  rw [nI_toInt (by omega)]
  have c1 : (0 : Int32).toInt = 0 := rfl
  have c2 : (8 : Int32).toInt = 8 := rfl
  omega
theorem RB.cut (H : RB B C R) {k N y : Nat} (hk : k < 3) (hN : N ≤ 8) (hc : C (10 + 32 * k) = nI N) : RB B (upd C (10 + 32 * k) (nI (N - y))) (shS R (10 + 32 * k) N y) := by
  obtain ⟨H, h6, W, T, hT, e9⟩ := H
  refine ⟨⟨fun j hj h6 => ?_, fun k' hk' i hi => ?_, fun k' hk' i hi => ?_, fun k' hk' i hi => ?_, fun k' hk' => ?_⟩, ?_, ?_, T, hT, ?_⟩
  · rw [upd_n (by omega), shS_o (by omega) (by omega)]; exact H.1 j hj h6
  · by_cases q : 10 + 32 * k' + i = 10 + 32 * k
    · rw [q, upd_s, shS_s0]
    · rw [upd_n q, shS_o q (by omega)]; exact H.2.1 k' hk' i hi
  · by_cases q : k' = k
    · subst q
      rw [upd_s, nI_clamp (by omega)] at hi
      rw [upd_n (by omega), shS_o (by omega) (by omega)]
      exact H.2.2.1 k' hk' i (by rw [hc, nI_clamp (by omega)]; omega)
    · rw [upd_n (by omega)] at hi
      have c8 := (W.wfT hk').2.1
      rw [upd_n (by omega), shS_o (by omega) (by omega)]
      exact H.2.2.1 k' hk' i hi
  · rw [upd_n (by omega), shS_o (by omega) (by omega)]; exact H.2.2.2.1 k' hk' i hi
  · rw [upd_n (a := 9) (by omega), upd_n (by omega), upd_n (by omega), shS_o (by omega) (by omega), shS_o (by omega) (by omega)]; exact H.2.2.2.2 k' hk'
  · rw [upd_n (by omega), shS_o (by omega) (by omega)]; exact h6
  · refine W.upd ?_
    rw [show rg (10 + 32 * k) = rgS 0 from rg_S (i := 0) hk (by decide)]
    exact nI_in08 (by omega)
  · rw [upd_n (by omega)]; exact e9
theorem act_cut (H : RB B C R) (x y : Int32) : ActOk B (vCut C x y) (aCut C x y) (upd C (10 + 32 * x.toNatClampNeg) (nI (nPt C x - y.toNatClampNeg))) (aCut R x y) (shS R (10 + 32 * x.toNatClampNeg) (nPt R x) y.toNatClampNeg) := by
  unfold vCut aCut
  cases h : isIn x 0 2 with
  | false => exact .no rfl (by rw [if_neg (by decide), if_neg (by decide)]) (by rw [if_neg (by decide)]; exact inv_le)
  | true =>
    have hk := kOf h
    obtain ⟨n1, n2, n3⟩ := H.npt hk
    rw [if_pos rfl, if_pos rfl, Bool.true_and, ← n1]
    cases h2 : isIn y 1 8 with
    | false => exact .no rfl rfl (by rw [if_neg (by decide)]; exact inv_le)
    | true =>
      rw [if_pos rfl, Bool.true_and]
      by_cases q : nPt C x < y.toNatClampNeg
      · rw [if_pos q]
        exact .no (by rw [decide_eq_true q]; rfl) rfl (by decide)
      · rw [if_neg q]
        exact .yes (by rw [decide_eq_false q]; rfl) rfl (nI_big (by omega)) (H.cut hk n2 n3)
theorem mul_bd {a b : Int} (h1 : -2160 ≤ a) (h2 : a ≤ 2160) (h3 : -1300 ≤ b) (h4 : b ≤ 1300) : -2808000 ≤ a * b ∧ a * b ≤ 2808000 := by
  have m : a.natAbs * b.natAbs ≤ 2160 * 1300 := Nat.mul_le_mul (by omega) (by omega)
  rw [← Int.natAbs_mul] at m
  omega
theorem rt_bd (W : Wf C) (hk : k < 3) {w : Int32} (hw : isIn w (-500) 1500 = true) : ∃ z : Int, -2808000 ≤ z ∧ z ≤ 2808000 ∧ rt C (10 + 32 * k) * (w - 200) = zI z := by
  obtain ⟨z, h1, h2, e⟩ := W.rtz hk
  have y := isIn_z.mp hw
  have c1 : (-500 : Int32).toInt = -500 := rfl
  have c2 : (1500 : Int32).toInt = 1500 := rfl
  have m := mul_bd (a := z) (b := w.toInt - 200) h1 h2 (by omega) (by omega)
  refine ⟨_, m.1, m.2, ?_⟩
  rw [e, ← zI_mul, ← zI_sub, ← zI_of]
  rfl
theorem act_bounds (H : RB B C R) (x lo hi la : Int32) : ActOk B (vBounds x lo hi la) (aBounds C x lo hi la) (bndS C x.toNatClampNeg lo hi la) (aBounds R x lo hi la) (bndS R x.toNatClampNeg lo hi la) := by
  unfold aBounds
  cases hv : vBounds x lo hi la with
  | false => exact .no rfl (by rw [if_neg (by decide), if_neg (by decide)]) (by rw [if_neg (by decide)]; exact inv_le)
  | true =>
    unfold vBounds at hv
    rw [Bool.and_eq_true, Bool.and_eq_true, Bool.and_eq_true] at hv
    obtain ⟨h, h1, h2, h3⟩ := hv
    have hk := kOf h
    have e1 := (H.1.rtE H.2.2.1 hk).1
    have e2 : C (106 + 7 * x.toNatClampNeg) = R (106 + 7 * x.toNatClampNeg) := H.1.rmj hk (by omega) (by omega)
    rw [if_pos rfl, if_pos rfl]
    have z1 := isIn_z.mp h1
    have z2 := isIn_z.mp h2
    have c1 : (-90000 : Int32).toInt = -90000 := rfl
    have c2 : (90000 : Int32).toInt = 90000 := rfl
    have c3 : (89999 : Int32).toInt = 89999 := rfl
    rw [c1, c3] at z1
    have e : (lo + 1).toInt = lo.toInt + 1 := by
      rw [show lo + 1 = zI (lo.toInt + 1) by rw [← zI_add, ← zI_of]; rfl]
      exact zI_t (by omega) (by omega)
    rw [e, c2] at z2
    refine .yes rfl (by rw [e1, e2]) ?_ ?_
    · rw [← e1, ← e2]
      obtain ⟨z, q1, q2, ez⟩ := rt_bd H.2.2.1 hk (H.2.2.1.wm hk)
      rw [ez]
      exact zI_big (by omega) (by omega)
    · unfold bndS
      exact ((H.stu hk (i := 1) (by decide) (by decide) (isIn_z.mpr (by show (-90000 : Int32).toInt ≤ _ ∧ _ ≤ (90000 : Int32).toInt; omega))).stu hk (i := 2) (by decide) (by decide) (isIn_z.mpr (by show (-90000 : Int32).toInt ≤ _ ∧ _ ≤ (90000 : Int32).toInt; omega))).stu hk (i := 3) (by decide) (by decide) h3
theorem act_tick (H : RB B C R) (hB : B ≤ 1000000) (x : Int32) : ActOk (B + 200) (isIn x 1 200) (aTickC C x) (tkD C (rts C) x.toNatClampNeg) (aTick R x) (tkI R (rts R) (R 6) x.toNatClampNeg) := by
  unfold aTickC aTick
  cases hv : isIn x 1 200 with
  | false => exact .no rfl (by rw [if_neg (by decide), if_neg (by decide)]) (by rw [if_neg (by decide)]; exact inv_le)
  | true =>
    obtain ⟨N, hN, rfl⟩ := isIn1 (B := 200) (a := 1) (by decide) rfl hv
    rw [if_pos rfl, if_pos rfl, nI_clamp (by omega)]
    obtain ⟨H, h6, W, T, hT, e9⟩ := H
    have er : ∀ k, k < 3 → rts C k = rts R k := fun k hk => (H.rtE W hk).1
    have hn : T + N < 2 ^ 31 := by omega
    have eC : tkE C (rts C) N = tkC R (rts R) (R 6) N := (H.tkEn W e9 h6 N hn).trans (tkC_r er N)
    refine .yes rfl eC ?_ ⟨?_, ?_, W.tkDn N, T + N, by omega, tkD_9 e9 N⟩
    · rw [← eC]
      obtain ⟨m, hm, e⟩ := tkE_n (C := C) (r := rts C) N
      rw [e]
      exact nI_big (by omega)
    · have h := H.tkDn (r := rts C) W e9 h6 N hn
      rw [tkI_r er N] at h
      exact h
    · rw [tkD_6, tkI_6 (by decide)]; exact h6
end
/-! history -/
def HR (B : Nat) (S : Nat → Nat → Int32) (oo t : Nat) (p : Nat → Int32) : Prop := ∀ i, i < t → RB B (S ((oo + i) % 4)) (fun j => p (127 * i + j))
section
variable {B B' oo t : Nat} {S : Nat → Nat → Int32} {p p' s s' : Nat → Int32}
theorem HR.mono (H : HR B S oo t p) (h : B ≤ B') : HR B' S oo t p := fun i hi => (H i hi).mono h
theorem HR.cong (H : HR B S oo t p) (ht : t ≤ 4) (e : Eq508 p p') : HR B S oo t p' := fun i hi => (H i hi).cong (fun j hj => e _ (by omega))
theorem HR.take (H : HR B S oo t p) (ht : t ≤ 4) (ho : oo < 4) (G : RB B s s') : HR B (hiS oo t S s) (hiO oo t) (hiZ t) (pastF p s' t) := by
  intro i hi
  unfold hiS
  by_cases q : t = 4
  · subst q
    have e1 : hiO oo 4 = (oo + 1) % 4 := rfl
    have e2 : hiZ 4 = 4 := rfl
    rw [e2] at hi
    rw [e1]
    by_cases q2 : i = 3
    · subst q2
      rw [if_pos (by omega)]
      refine G.cong (fun j hj => ?_)
      unfold pastF lay
      rw [if_pos rfl, if_pos ⟨by omega, by omega⟩]
      exact congrArg s' (by omega)
    · rw [if_neg (by omega)]
      have h := H (i + 1) (by omega)
      rw [show ((oo + 1) % 4 + i) % 4 = (oo + (i + 1)) % 4 by omega]
      refine h.cong (fun j hj => ?_)
      unfold pastF lay flo
      rw [if_pos rfl, if_neg (by omega), if_pos (by omega)]
      exact congrArg p (by omega)
  · have e1 : hiO oo t = oo := by unfold hiO; rw [if_pos (by omega)]
    have e2 : hiZ t = t + 1 := by unfold hiZ; rw [if_pos (by omega)]
    rw [e2] at hi
    rw [e1]
    by_cases q2 : i = t
    · subst q2
      rw [if_pos rfl]
      refine G.cong (fun j hj => ?_)
      unfold pastF lay
      rw [if_neg q, if_pos ⟨by omega, by omega⟩]
      exact congrArg s' (by omega)
    · rw [if_neg (by omega)]
      refine (H i (by omega)).cong (fun j hj => ?_)
      unfold pastF lay
      rw [if_neg q, if_neg (by omega)]
theorem pastT_hi (ht : t ≤ 4) : pastT t = hiZ t := by
  unfold pastT hiZ
  by_cases q : t = 4
  · rw [if_pos q, if_neg (by omega)]
  · rw [if_neg q, if_pos (by omega)]
end

