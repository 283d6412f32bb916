/-! the class's row beside the reference's: the same but for parts beyond the count, and but for the greatest and least warmths while there is no tick -/
def Rl (C R : Nat → Int32) : Prop := (∀ j, j < 10 → ¬ j = 6 → C j = R j) ∧ (∀ k, k < 3 → ∀ i, i < 8 → C (10 + 32 * k + i) = R (10 + 32 * k + i)) ∧ (∀ k, k < 3 → ∀ i, i < 3 * (C (10 + 32 * k)).toNatClampNeg → C (18 + 32 * k + i) = R (18 + 32 * k + i)) ∧ (∀ k, k < 3 → ∀ i, i < 5 → C (106 + 7 * k + i) = R (106 + 7 * k + i)) ∧ (∀ k, k < 3 → (C 9 = 0 → C (111 + 7 * k) = -500 ∧ C (112 + 7 * k) = 1500) ∧ (¬ C 9 = 0 → C (111 + 7 * k) = R (111 + 7 * k) ∧ C (112 + 7 * k) = R (112 + 7 * k)))
section
variable {C R r : Nat → Int32} {k i j : Nat} {un : Int32}
theorem Rl.lo (H : Rl C R) (hj : j < 10) (h6 : ¬ j = 6) : C j = R j := H.1 j hj h6
theorem Rl.st (H : Rl C R) (hk : k < 3) (hi : i < 8) : C (10 + 32 * k + i) = R (10 + 32 * k + i) := H.2.1 k hk i hi
theorem Rl.st0 (H : Rl C R) (hk : k < 3) : C (10 + 32 * k) = R (10 + 32 * k) := H.2.1 k hk 0 (by decide)
theorem Rl.stj (H : Rl C R) (hk : k < 3) (h1 : 10 + 32 * k ≤ j) (h2 : j < 18 + 32 * k) : C j = R j := by
  have h := H.st hk (i := j - (10 + 32 * k)) (by omega)
  rwa [show 10 + 32 * k + (j - (10 + 32 * k)) = j by omega] at h
theorem Rl.rmj (H : Rl C R) (hk : k < 3) (h1 : 106 + 7 * k ≤ j) (h2 : j < 111 + 7 * k) : C j = R j := by
  have h := H.2.2.2.1 k hk (j - (106 + 7 * k)) (by omega)
  rwa [show 106 + 7 * k + (j - (106 + 7 * k)) = j by omega] at h
theorem Rl.ptj (H : Rl C R) (hk : k < 3) (h1 : 18 + 32 * k ≤ j) (h2 : j < 18 + 32 * k + 3 * (C (10 + 32 * k)).toNatClampNeg) : C j = R j := by
  have h := H.2.2.1 k hk (j - (18 + 32 * k)) (by omega)
  rwa [show 18 + 32 * k + (j - (18 + 32 * k)) = j by omega] at h
theorem Rl.wtcE (H : Rl C R) (hk : k < 3) : wtc C k = wtc R k := by
  have a1 : (k + 1) % 3 < 3 := Nat.mod_lt _ (by decide)
  have a2 : (k + 2) % 3 < 3 := Nat.mod_lt _ (by decide)
  unfold wtc
  rw [H.rmj hk (j := 106 + 7 * k) (by omega) (by omega), H.rmj hk (j := 107 + 7 * k) (by omega) (by omega), H.rmj hk (j := 108 + 7 * k) (by omega) (by omega), H.rmj hk (j := 109 + 7 * k) (by omega) (by omega), H.rmj a1 (j := 106 + 7 * ((k + 1) % 3)) (by omega) (by omega), H.rmj a2 (j := 106 + 7 * ((k + 2) % 3)) (by omega) (by omega), H.rmj a2 (j := 109 + 7 * ((k + 2) % 3)) (by omega) (by omega), H.lo (j := 8) (by decide) (by decide), H.stj hk (j := 17 + 32 * k) (by omega) (by omega), H.stj hk (j := 14 + 32 * k) (by omega) (by omega)]
theorem Rl.rtE (H : Rl C R) (W : Wf C) (hk : k < 3) : rt C (10 + 32 * k) = rt R (10 + 32 * k) ∧ WfT R (10 + 32 * k) := by
  have T := W.wfT hk
  have e0 := H.st0 hk
  have c8 := T.2.1
  have e8 : ∀ i, i < (C (10 + 32 * k)).toNatClampNeg → ∀ w, w < 3 → C (10 + 32 * k + (8 + w + 3 * i)) = R (10 + 32 * k + (8 + w + 3 * i)) := fun i hi w hw => H.ptj hk (by omega) (by omega)
  have q1 : WfT R (10 + 32 * k) := by
    refine ⟨by rw [← e0]; exact T.1, by rw [← e0]; exact T.2.1, fun i hi => ?_⟩
    rw [← e0] at hi
    rw [← e8 i hi 1 (by decide), ← e8 i hi 2 (by decide)]
    exact T.2.2 i hi
  refine ⟨?_, q1⟩
  unfold rt rateF
  rw [← e0]
  refine sumF_cong (fun i hi => ?_)
  have v := T.2.2 i hi
  have v1 := vp_lt v.1
  have v2 := vp_lt v.2
  show C (10 + 32 * k + (8 + 3 * i)) * (C (C (10 + 32 * k + (9 + 3 * i))).toNatClampNeg - C (C (10 + 32 * k + (10 + 3 * i))).toNatClampNeg) = R (10 + 32 * k + (8 + 3 * i)) * (R (R (10 + 32 * k + (9 + 3 * i))).toNatClampNeg - R (R (10 + 32 * k + (10 + 3 * i))).toNatClampNeg)
  rw [e8 i hi 0 (by decide), H.lo (j := (C (10 + 32 * k + (9 + 3 * i))).toNatClampNeg) (by omega) (by omega), H.lo (j := (C (10 + 32 * k + (10 + 3 * i))).toNatClampNeg) (by omega) (by omega), e8 i hi 1 (by decide), e8 i hi 2 (by decide)]
theorem Rl.wfS (H : Rl C R) (W : Wf C) : WfS R := ⟨(H.rtE W (k := 0) (by decide)).2, (H.rtE W (k := 1) (by decide)).2, (H.rtE W (k := 2) (by decide)).2⟩
theorem Rl.okR (H : Rl C R) (W : Wf C) : ∀ k, k < 3 → OkR R k := by
  intro k hk
  have a2 : (k + 2) % 3 < 3 := Nat.mod_lt _ (by decide)
  refine ⟨?_, ?_, ?_, ?_⟩
  · rw [← H.rmj hk (j := 108 + 7 * k) (by omega) (by omega)]; exact W.dv hk
  · rw [← H.stj hk (j := 14 + 32 * k) (by omega) (by omega)]; exact W.si hk
  · rw [← H.rmj hk (j := 109 + 7 * k) (by omega) (by omega)]; exact W.op hk
  · rw [← H.rmj a2 (j := 109 + 7 * ((k + 2) % 3)) (by omega) (by omega)]; exact W.op a2
theorem Rl.numOk (H : Rl C R) (W : Wf C) : NumOk R := by
  intro j hj
  rw [← H.lo (j := j) (by omega) (by omega)]
  exact W.num hj
theorem mk7_5 {x0 x1 x2 x3 x4 x5 x6 y0 y1 y2 y3 y4 y5 y6 : Int32} (h0 : x0 = y0) (h1 : x1 = y1) (h2 : x2 = y2) (h3 : x3 = y3) (h4 : x4 = y4) (hi : i < 5) : mk7 x0 x1 x2 x3 x4 x5 x6 i = mk7 y0 y1 y2 y3 y4 y5 y6 i := by
  have : i = 0 ∨ i = 1 ∨ i = 2 ∨ i = 3 ∨ i = 4 := by omega
  rcases this with rfl | rfl | rfl | rfl | rfl <;> assumption
theorem mx_e {g v : Int32} : maxF g v = mxM false g v := by
  unfold maxF mxM
  rw [if_pos rfl]
  by_cases q : g < v
  · rw [if_pos q, if_neg (Int32.not_le.mpr q)]
  · rw [if_neg q, if_pos (Int32.not_lt.mp q)]
theorem mn_e {g v : Int32} : minF g v = mnM false g v := by
  unfold minF mnM
  rw [if_pos rfl]
  by_cases q : v < g
  · rw [if_pos q, if_neg (Int32.not_le.mpr q)]
  · rw [if_neg q, if_pos (Int32.not_lt.mp q)]
theorem mx_0 {v : Int32} (h : isIn v (-500) 1500 = true) : maxF (-500) v = v := by
  have z := isIn_z.mp h
  unfold maxF
  by_cases q : (-500 : Int32) < v
  · rw [if_pos q]
  · rw [if_neg q]
    rw [Int32.not_lt] at q
    rw [Int32.le_iff_toInt_le] at q
    exact Int32.toInt_inj.mp (by omega)
theorem mn_0 {v : Int32} (h : isIn v (-500) 1500 = true) : minF 1500 v = v := by
  have z := isIn_z.mp h
  unfold minF
  by_cases q : v < (1500 : Int32)
  · rw [if_pos q]
  · rw [if_neg q]
    rw [Int32.not_lt] at q
    rw [Int32.le_iff_toInt_le] at q
    exact Int32.toInt_inj.mp (by omega)
theorem Rl.tk (H : Rl C R) (W : Wf C) {T : Nat} (h9 : C 9 = nI T) (hT : T + 1 < 2 ^ 31) (hu : C 6 = un) : Rl (tkS C r) (tkM R r un) := by
  have e9 : C 9 = R 9 := H.lo (by decide) (by decide)
  have n9 : ¬ tkS C r 9 = 0 := by rw [ts9, h9, nI_1]; exact nI_ne0 (by omega) hT
  have cnt : ∀ k, k < 3 → tkS C r (10 + 32 * k) = C (10 + 32 * k) := fun k hk => tsT (i := 0) hk (by decide)
  refine ⟨fun j hj h6 => ?_, fun k hk i hi => ?_, fun k hk i hi => ?_, fun k hk i hi => ?_, fun k hk => ⟨fun z => absurd z n9, fun _ => ?_⟩⟩
  · by_cases q : j = 9
    · subst q; rw [ts9, tm9, e9]
    · rw [tsO q (fun k hk => ⟨by omega, by omega⟩), tmO (by omega) q (fun k hk => ⟨by omega, by omega⟩), H.lo hj h6]
  · rw [tsT hk hi, tmT hk hi]
    unfold mvK
    exact mvT_c2 (fun i hi => H.st hk hi) hu (H.lo (by decide) (by decide)) (by rw [H.wtcE hk]) hi
  · rw [cnt k hk] at hi
    have c8 := (W.wfT hk).2.1
    rw [tsO (by omega) (fun k' hk' => ⟨by omega, by omega⟩), tmO (by omega) (by omega) (fun k' hk' => ⟨by omega, by omega⟩)]
    exact H.2.2.1 k hk i hi
  · rw [tsR hk (by omega), tmR hk (by omega)]
    unfold roomT roomM
    exact mk7_5 (H.wtcE hk) (H.rmj hk (by omega) (by omega)) (H.rmj hk (by omega) (by omega)) (H.rmj hk (by omega) (by omega)) (by rw [H.rmj hk (j := 110 + 7 * k) (by omega) (by omega), H.stj hk (j := 17 + 32 * k) (by omega) (by omega), H.stj hk (j := 14 + 32 * k) (by omega) (by omega)]) hi
  · have a5 := tsR (s := C) (r := r) hk (i := 5) (by decide)
    have a6 := tsR (s := C) (r := r) hk (i := 6) (by decide)
    have b5 := tmR (s := R) (r := r) (un := un) hk (i := 5) (by decide)
    have b6 := tmR (s := R) (r := r) (un := un) hk (i := 6) (by decide)
    rw [show 106 + 7 * k + 5 = 111 + 7 * k by omega] at a5 b5
    rw [show 106 + 7 * k + 6 = 112 + 7 * k by omega] at a6 b6
    rw [a5, a6, b5, b6, ← H.wtcE hk, ← e9]
    show maxF (C (111 + 7 * k)) (wtc C k) = mxM (decide (C 9 = 0)) (R (111 + 7 * k)) (wtc C k) ∧ minF (C (112 + 7 * k)) (wtc C k) = mnM (decide (C 9 = 0)) (R (112 + 7 * k)) (wtc C k)
    have w := wtc_in C k
    have g := H.2.2.2.2 k hk
    by_cases q : C 9 = 0
    · rw [decide_eq_true q, (g.1 q).1, (g.1 q).2, mx_0 w, mn_0 w]
      exact ⟨rfl, rfl⟩
    · rw [decide_eq_false q, (g.2 q).1, (g.2 q).2, mx_e, mn_e]
      exact ⟨rfl, rfl⟩
theorem Rl.chE (H : Rl C R) (hk : k < 3) : chK C r k = chK R r k := by
  unfold chK
  rw [H.wtcE hk, H.stj hk (j := 11 + 32 * k) (by omega) (by omega), H.stj hk (j := 12 + 32 * k) (by omega) (by omega), H.stj hk (j := 13 + 32 * k) (by omega) (by omega), H.stj hk (j := 14 + 32 * k) (by omega) (by omega), H.stj hk (j := 15 + 32 * k) (by omega) (by omega)]
theorem Rl.tkNE (H : Rl C R) : tkN C r = tkMN R r un := by
  rw [tsN, tmN, H.chE (by decide), H.chE (by decide), H.chE (by decide)]
end

