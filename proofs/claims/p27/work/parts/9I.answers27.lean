/-! answers in the row's own words -/
section
variable {s : Nat → Int32} {k i : Nat} {ss n : Nat} {w : Int32}
theorem in02 (hk : k < 3) : isIn (nI k) 0 2 = true := by
  rcases three hk with rfl | rfl | rfl <;> decide
theorem c3k (hk : k < 3) : (nI k).toNatClampNeg = k := nI_clamp (by omega)
theorem st_g (hk : k < 3) (hw : isIn w 0 11 = true) : aStripOf s (nI k) w = sOf s (10 + 32 * k) (s (106 + 7 * k)) w := by
  unfold aStripOf
  rw [if_pos (in02 hk), if_pos hw, c3k hk]
theorem st0 (hk : k < 3) : aStripOf s (nI k) 0 = s (10 + 32 * k) := by
  rw [st_g hk (by decide)]
  unfold sOf
  rw [if_pos rfl]
theorem st1 (hk : k < 3) : aStripOf s (nI k) 1 = sumF (fun i => s (10 + 32 * k + (8 + 3 * i))) (s (10 + 32 * k)).toNatClampNeg := by
  rw [st_g hk (by decide)]
  unfold sOf
  rw [if_neg (by decide), if_pos rfl]
theorem st2 (hk : k < 3) : aStripOf s (nI k) 2 = rt s (10 + 32 * k) := by
  rw [st_g hk (by decide)]
  unfold sOf
  rw [if_neg (by decide), if_neg (by decide), if_pos rfl]
theorem st3 (hk : k < 3) : aStripOf s (nI k) 3 = rt s (10 + 32 * k) * (s (106 + 7 * k) - 200) := by
  rw [st_g hk (by decide)]
  unfold sOf
  rw [if_neg (by decide), if_neg (by decide), if_neg (by decide), if_pos rfl]
theorem st11 (hk : k < 3) : aStripOf s (nI k) 11 = b2i (closedF (s (17 + 32 * k)) (s (14 + 32 * k))) := by
  rw [st_g hk (by decide)]
  unfold sOf
  rw [if_neg (by decide), if_neg (by decide), if_neg (by decide), if_neg (by decide), if_pos rfl, show 10 + 32 * k + 7 = 17 + 32 * k by omega, show 10 + 32 * k + 4 = 14 + 32 * k by omega]
theorem stx (hk : k < 3) (hw : isIn w 0 11 = true) (h0 : ¬ w = 0) (h1 : ¬ w = 1) (h2 : ¬ w = 2) (h3 : ¬ w = 3) (h11 : ¬ w = 11) : aStripOf s (nI k) w = s (10 + 32 * k + w.toNatClampNeg - 3) := by
  rw [st_g hk hw]
  unfold sOf
  rw [if_neg h0, if_neg h1, if_neg h2, if_neg h3, if_neg h11]
theorem st4 (hk : k < 3) : aStripOf s (nI k) 4 = s (11 + 32 * k) := (stx hk (by decide) (by decide) (by decide) (by decide) (by decide) (by decide)).trans (congrArg s (show 10 + 32 * k + 4 - 3 = _ by omega))
theorem st5 (hk : k < 3) : aStripOf s (nI k) 5 = s (12 + 32 * k) := (stx hk (by decide) (by decide) (by decide) (by decide) (by decide) (by decide)).trans (congrArg s (show 10 + 32 * k + 5 - 3 = _ by omega))
theorem st7 (hk : k < 3) : aStripOf s (nI k) 7 = s (14 + 32 * k) := (stx hk (by decide) (by decide) (by decide) (by decide) (by decide) (by decide)).trans (congrArg s (show 10 + 32 * k + 7 - 3 = _ by omega))
theorem st8 (hk : k < 3) : aStripOf s (nI k) 8 = s (15 + 32 * k) := (stx hk (by decide) (by decide) (by decide) (by decide) (by decide) (by decide)).trans (congrArg s (show 10 + 32 * k + 8 - 3 = _ by omega))
theorem st9 (hk : k < 3) : aStripOf s (nI k) 9 = s (16 + 32 * k) := (stx hk (by decide) (by decide) (by decide) (by decide) (by decide) (by decide)).trans (congrArg s (show 10 + 32 * k + 9 - 3 = _ by omega))
theorem st10 (hk : k < 3) : aStripOf s (nI k) 10 = s (17 + 32 * k) := (stx hk (by decide) (by decide) (by decide) (by decide) (by decide) (by decide)).trans (congrArg s (show 10 + 32 * k + 10 - 3 = _ by omega))
theorem ro_g (hk : k < 3) (hw : isIn w 0 6 = true) (h4 : w ≤ 4) : aRoomOf s (nI k) w = s (106 + 7 * k + w.toNatClampNeg) := by
  unfold aRoomOf
  rw [if_pos (in02 hk), if_pos hw, if_pos h4, c3k hk]
theorem ro0 (hk : k < 3) : aRoomOf s (nI k) 0 = s (106 + 7 * k) := ro_g hk (by decide) (by decide)
theorem ro1 (hk : k < 3) : aRoomOf s (nI k) 1 = s (106 + 7 * k + 1) := ro_g hk (by decide) (by decide)
theorem ro2 (hk : k < 3) : aRoomOf s (nI k) 2 = s (106 + 7 * k + 2) := ro_g hk (by decide) (by decide)
theorem ro3 (hk : k < 3) : aRoomOf s (nI k) 3 = s (106 + 7 * k + 3) := ro_g hk (by decide) (by decide)
theorem ro4 (hk : k < 3) : aRoomOf s (nI k) 4 = s (110 + 7 * k) := (ro_g hk (by decide) (by decide)).trans (congrArg s (show 106 + 7 * k + 4 = _ by omega))
theorem ro5 (hk : k < 3) : aRoomOf s (nI k) 5 = if s 9 = 0 then -10000004 else s (111 + 7 * k) := by
  unfold aRoomOf
  rw [if_pos (in02 hk), if_pos (by decide), if_neg (by decide), c3k hk, show 106 + 7 * k + (5 : Int32).toNatClampNeg = 111 + 7 * k from (show 106 + 7 * k + 5 = _ by omega)]
theorem ro6 (hk : k < 3) : aRoomOf s (nI k) 6 = if s 9 = 0 then -10000004 else s (112 + 7 * k) := by
  unfold aRoomOf
  rw [if_pos (in02 hk), if_pos (by decide), if_neg (by decide), c3k hk, show 106 + 7 * k + (6 : Int32).toNatClampNeg = 112 + 7 * k from (show 106 + 7 * k + 6 = _ by omega)]
theorem pt_g {N : Nat} (hk : k < 3) (hN : N ≤ 8) (e : s (10 + 32 * k) = nI N) (hi : i < N) (hw : isIn w 0 3 = true) : aPartOf s (nI k) (nI i) w = pOf s (10 + 32 * k) i w.toNatClampNeg := by
  unfold aPartOf
  rw [if_pos (in02 hk), if_pos hw, c3k hk, e, if_neg (nI_pos (by omega)), if_neg (nI_ge hi (by omega)), nI_clamp (by omega)]
theorem pt0 {N : Nat} (hk : k < 3) (hN : N ≤ 8) (e : s (10 + 32 * k) = nI N) (hi : i < N) : aPartOf s (nI k) (nI i) 0 = s (10 + 32 * k + (8 + 3 * i)) := by
  rw [pt_g hk hN e hi (by decide)]
  exact congrArg s (show 10 + 32 * k + 8 + 3 * i + 0 = _ by omega)
theorem pt1 {N : Nat} (hk : k < 3) (hN : N ≤ 8) (e : s (10 + 32 * k) = nI N) (hi : i < N) : aPartOf s (nI k) (nI i) 1 = s (10 + 32 * k + (9 + 3 * i)) := by
  rw [pt_g hk hN e hi (by decide)]
  exact congrArg s (show 10 + 32 * k + 8 + 3 * i + 1 = _ by omega)
theorem pt2 {N : Nat} (hk : k < 3) (hN : N ≤ 8) (e : s (10 + 32 * k) = nI N) (hi : i < N) : aPartOf s (nI k) (nI i) 2 = s (10 + 32 * k + (10 + 3 * i)) := by
  rw [pt_g hk hN e hi (by decide)]
  exact congrArg s (show 10 + 32 * k + 8 + 3 * i + 2 = _ by omega)
theorem pt3' {N : Nat} (hk : k < 3) (hN : N ≤ 8) (e : s (10 + 32 * k) = nI N) (hi : i < N) : aPartOf s (nI k) (nI i) 3 = rateP (fun i => s (10 + 32 * k + (8 + 3 * i))) (fun i => s (10 + 32 * k + (9 + 3 * i))) (fun i => s (10 + 32 * k + (10 + 3 * i))) s i := by
  rw [pt_g hk hN e hi (by decide)]
  exact if_pos rfl
theorem ct0 : aCount s ss n 0 = s 9 := rfl
theorem ct1 : aCount s ss n 1 = s 16 + s 48 + s 80 := rfl
theorem ct2 : aCount s ss n 2 = s 8 := rfl
theorem ct3 : aCount s ss n 3 = nI ss := rfl
theorem ct4 : aCount s ss n 4 = nI n := rfl
theorem ct5 : aCount s ss n 5 = s 6 := rfl
theorem ct6 : aCount s ss n 6 = s 7 := rfl
theorem ctm {M : Nat} (hm : M < 6) : aCount s ss n (10 + nI M) = s M := by
  have : M = 0 ∨ M = 1 ∨ M = 2 ∨ M = 3 ∨ M = 4 ∨ M = 5 := by omega
  rcases this with rfl | rfl | rfl | rfl | rfl | rfl <;> rfl
theorem ctd {t m : Nat} (h3 : ¬ w = 3) (h4 : ¬ w = 4) : aCount s ss n w = aCount s t m w := by
  unfold aCount
  rw [if_neg h3, if_neg h4, if_neg h3, if_neg h4]
theorem bn_g (hk : k < 3) (hw : isIn w (-500) 1500 = true) : aBend s (nI k) w = rt s (10 + 32 * k) * (w - 200) := by
  unfold aBend
  rw [if_pos (in02 hk), if_pos hw, c3k hk]
theorem tr0 (hk : k < 3) : aTripC s (nI k) 0 = lPull (rt s (10 + 32 * k)) (s (12 + 32 * k)) := by
  unfold aTripC
  rw [if_pos (in02 hk), if_pos (by decide), if_pos rfl, c3k hk, show 10 + 32 * k + 2 = 12 + 32 * k by omega]
theorem tr1 (hk : k < 3) : aTripC s (nI k) 1 = gPull (rt s (10 + 32 * k)) (s (11 + 32 * k)) := by
  unfold aTripC
  rw [if_pos (in02 hk), if_pos (by decide), if_neg (by decide), c3k hk, show 10 + 32 * k + 1 = 11 + 32 * k by omega]
end
/-! where a strip trips -/
theorem zI_in {z : Int} (h : -500 ≤ z ∧ z ≤ 1500) : isIn (zI z) (-500) 1500 = true := by
  refine isIn_z.mpr ?_
  have a : (-500 : Int32).toInt = -500 := rfl
  have b : (1500 : Int32).toInt = 1500 := rfl
  rw [zI_t (by omega) (by omega)]
  omega
theorem trip_u {z H : Int} (hz : -2160 ≤ z ∧ z ≤ 2160) (hH : -90000 ≤ H ∧ H ≤ 90000) : lPull (zI z) (zI H) = -10000004 ∨ (isIn (lPull (zI z) (zI H)) (-500) 1500 = true ∧ zI H ≤ zI z * (lPull (zI z) (zI H) - 200)) := by
  have key : ∀ w : Int, -500 ≤ w → w ≤ 1500 → H ≤ z * (w - 200) → isIn (zI w) (-500) 1500 = true ∧ zI H ≤ zI z * (zI w - 200) := fun w h1 h2 h3 => by
    refine ⟨zI_in ⟨h1, h2⟩, ?_⟩
    rw [show (200 : Int32) = zI 200 from rfl, zI_sub, zI_mul, ← Int32.not_lt, tp_lt hz hH (by omega)]
    omega
  by_cases hp : 0 < z
  · have p : (0 : Int32) < zI z := by rw [show (0 : Int32) = zI 0 from rfl, zI_lt (by omega) (by omega)]; exact hp
    have e : flDiv (-zI H) (zI z) = zI (-H / z) := by rw [zI_neg]; exact flDiv_z (by omega) (by omega)
    have m1 : z * (-H / z) ≤ -H := Int.mul_ediv_self_le (by omega)
    have m2 : -90000 ≤ -H / z ∧ -H / z ≤ 90000 := by
      constructor
      · exact Int.le_ediv_of_mul_le hp (by
          have : (-90000) * z ≤ (-90000) * 1 := Int.mul_le_mul_of_nonpos_left (by omega) (by omega)
          omega)
      · have h1 : -H / z ≤ 90000 / z := Int.ediv_le_ediv hp (by omega)
        have h2 : 90000 / z ≤ 90000 := Int.ediv_le_self _ (by omega)
        omega
    unfold lPull
    rw [if_pos p, e, show (200 : Int32) = zI 200 from rfl, zI_sub, show (1500 : Int32) = zI 1500 from rfl, show (-500 : Int32) = zI (-500) from rfl]
    generalize hu : -H / z = u at *
    by_cases q1 : 200 - u ≤ 1500
    · rw [if_pos (by rw [zI_le (by omega) (by omega)]; exact q1)]
      by_cases q2 : 200 - u < -500
      · rw [if_pos (by rw [zI_lt (by omega) (by omega)]; exact q2)]
        refine Or.inr (key (-500) (by omega) (by omega) ?_)
        have : z * (700 : Int) ≤ z * u := Int.mul_le_mul_of_nonneg_left (by omega) (by omega)
        have e2 : z * (-500 - 200 : Int) = -(z * 700) := by omega
        rw [e2]
        omega
      · rw [if_neg (by rw [zI_lt (by omega) (by omega)]; exact q2)]
        refine Or.inr (key (200 - u) (by omega) (by omega) ?_)
        have e2 : z * (200 - u - 200 : Int) = -(z * u) := by rw [show (200 - u - 200 : Int) = -u by omega, Int.mul_neg]
        rw [e2]
        omega
    · exact Or.inl (if_neg (by rw [zI_le (by omega) (by omega)]; exact q1))
  · have p : ¬ (0 : Int32) < zI z := by rw [show (0 : Int32) = zI 0 from rfl, zI_lt (by omega) (by omega)]; exact hp
    unfold lPull
    rw [if_neg p]
    by_cases q : zI z * (-500 - 200) < zI H
    · exact Or.inl (if_pos q)
    · rw [if_neg q]
      exact Or.inr ⟨by decide, Int32.not_lt.mp q⟩
theorem trip_d {z H : Int} (hz : -2160 ≤ z ∧ z ≤ 2160) (hH : -90000 ≤ H ∧ H ≤ 90000) : gPull (zI z) (zI H) = -10000004 ∨ (isIn (gPull (zI z) (zI H)) (-500) 1500 = true ∧ zI z * (gPull (zI z) (zI H) - 200) ≤ zI H) := by
  have key : ∀ w : Int, -500 ≤ w → w ≤ 1500 → z * (w - 200) ≤ H → isIn (zI w) (-500) 1500 = true ∧ zI z * (zI w - 200) ≤ zI H := fun w h1 h2 h3 => by
    refine ⟨zI_in ⟨h1, h2⟩, ?_⟩
    rw [show (200 : Int32) = zI 200 from rfl, zI_sub, zI_mul, ← Int32.not_lt, tp_gt hz hH (by omega)]
    omega
  by_cases hp : 0 < z
  · have p : (0 : Int32) < zI z := by rw [show (0 : Int32) = zI 0 from rfl, zI_lt (by omega) (by omega)]; exact hp
    have e : flDiv (zI H) (zI z) = zI (H / z) := flDiv_z (by omega) (by omega)
    have m1 : z * (H / z) ≤ H := Int.mul_ediv_self_le (by omega)
    have m2 : -90000 ≤ H / z ∧ H / z ≤ 90000 := by
      constructor
      · exact Int.le_ediv_of_mul_le hp (by
          have : (-90000) * z ≤ (-90000) * 1 := Int.mul_le_mul_of_nonpos_left (by omega) (by omega)
          omega)
      · have h1 : H / z ≤ 90000 / z := Int.ediv_le_ediv hp (by omega)
        have h2 : 90000 / z ≤ 90000 := Int.ediv_le_self _ (by omega)
        omega
    unfold gPull
    rw [if_pos p, e, show (200 : Int32) = zI 200 from rfl, zI_add, show (1500 : Int32) = zI 1500 from rfl, show (-500 : Int32) = zI (-500) from rfl]
    generalize hu : H / z = u at *
    by_cases q1 : -500 ≤ 200 + u
    · rw [if_pos (by rw [zI_le (by omega) (by omega)]; exact q1)]
      by_cases q2 : 1500 < 200 + u
      · rw [if_pos (by rw [zI_lt (by omega) (by omega)]; exact q2)]
        refine Or.inr (key 1500 (by omega) (by omega) ?_)
        have : z * (1300 : Int) ≤ z * u := Int.mul_le_mul_of_nonneg_left (by omega) (by omega)
        have e2 : z * (1500 - 200 : Int) = z * 1300 := by omega
        rw [e2]
        omega
      · rw [if_neg (by rw [zI_lt (by omega) (by omega)]; exact q2)]
        refine Or.inr (key (200 + u) (by omega) (by omega) ?_)
        rw [show (200 + u - 200 : Int) = u by omega]
        exact m1
    · exact Or.inl (if_neg (by rw [zI_le (by omega) (by omega)]; exact q1))
  · have p : ¬ (0 : Int32) < zI z := by rw [show (0 : Int32) = zI 0 from rfl, zI_lt (by omega) (by omega)]; exact hp
    unfold gPull
    rw [if_neg p]
    by_cases q : zI H < zI z * (1500 - 200)
    · exact Or.inl (if_pos q)
    · rw [if_neg q]
      exact Or.inr ⟨by decide, Int32.not_lt.mp q⟩
theorem Wf.lo {s : Nat → Int32} (W : Wf s) {k : Nat} (hk : k < 3) : ∃ H : Int, (-90000 ≤ H ∧ H ≤ 90000) ∧ s (11 + 32 * k) = zI H := by
  have z := isIn_z.mp (W.S hk (i := 1) (by decide))
  have a : ((rgS 1).1).toInt = -90000 := rfl
  have b : ((rgS 1).2).toInt = 90000 := rfl
  rw [a, b, show 10 + 32 * k + 1 = 11 + 32 * k by omega] at z
  exact ⟨_, z, zI_of _⟩
theorem Wf.hi {s : Nat → Int32} (W : Wf s) {k : Nat} (hk : k < 3) : ∃ H : Int, (-90000 ≤ H ∧ H ≤ 90000) ∧ s (12 + 32 * k) = zI H := by
  have z := isIn_z.mp (W.S hk (i := 2) (by decide))
  have a : ((rgS 2).1).toInt = -90000 := rfl
  have b : ((rgS 2).2).toInt = 90000 := rfl
  rw [a, b, show 10 + 32 * k + 2 = 12 + 32 * k by omega] at z
  exact ⟨_, z, zI_of _⟩
theorem Wf.trU {s : Nat → Int32} (W : Wf s) {k : Nat} (hk : k < 3) : aTripC s (nI k) 0 = -10000004 ∨ (isIn (aTripC s (nI k) 0) (-500) 1500 = true ∧ s (12 + 32 * k) ≤ rt s (10 + 32 * k) * (aTripC s (nI k) 0 - 200)) := by
  obtain ⟨z, h1, h2, e⟩ := W.rtz hk
  obtain ⟨H, hH, eH⟩ := W.hi hk
  rw [tr0 hk, e, eH]
  exact trip_u ⟨h1, h2⟩ hH
theorem Wf.trD {s : Nat → Int32} (W : Wf s) {k : Nat} (hk : k < 3) : aTripC s (nI k) 1 = -10000004 ∨ (isIn (aTripC s (nI k) 1) (-500) 1500 = true ∧ rt s (10 + 32 * k) * (aTripC s (nI k) 1 - 200) ≤ s (11 + 32 * k)) := by
  obtain ⟨z, h1, h2, e⟩ := W.rtz hk
  obtain ⟨H, hH, eH⟩ := W.lo hk
  rw [tr1 hk, e, eH]
  exact trip_d ⟨h1, h2⟩ hH
/-! ticks counted -/
def ch01 (b : Bool) : Nat := if b = true then 1 else 0
theorem b2i_ch (b : Bool) : b2i b = nI (ch01 b) := by cases b <;> rfl
def chN (s r : Nat → Int32) (k : Nat) : Nat → Nat
  | 0 => 0
  | n + 1 => chN s r k n + ch01 (chK (tkD s r n) r k)
theorem tkE_c {s r : Nat → Int32} : ∀ n, tkE s r n = nI (chN s r 0 n + chN s r 1 n + chN s r 2 n)
  | 0 => rfl
  | n + 1 => by
    show tkE s r n + tkN (tkD s r n) r = _
    rw [tsN, tkE_c n, b2i_ch, b2i_ch, b2i_ch, Int32.zero_add, nI_add, nI_add, nI_add]
    have e : ∀ k, chN s r k (n + 1) = chN s r k n + ch01 (chK (tkD s r n) r k) := fun _ => rfl
    rw [e 0, e 1, e 2]
    exact congrArg nI (by omega)
theorem tk_one {s r : Nat → Int32} (W : Wf s) {k : Nat} (hk : k < 3) : (chK s r k = false ∧ tkS s r (14 + 32 * k) = s (14 + 32 * k) ∧ tkS s r (16 + 32 * k) = s (16 + 32 * k)) ∨ (chK s r k = true ∧ s (14 + 32 * k) = 0 ∧ tkS s r (14 + 32 * k) = 1 ∧ tkS s r (16 + 32 * k) = s (16 + 32 * k) + 1) ∨ (chK s r k = true ∧ s (14 + 32 * k) = 1 ∧ tkS s r (14 + 32 * k) = 0 ∧ tkS s r (16 + 32 * k) = s (16 + 32 * k)) := by
  have a := tsT (s := s) (r := r) hk (i := 4) (by decide)
  have b := tsT (s := s) (r := r) hk (i := 6) (by decide)
  have si := W.si hk
  have ec : chK s r k = chB (s (10 + 32 * k + 1)) (s (10 + 32 * k + 2)) (s (10 + 32 * k + 3)) (s (10 + 32 * k + 5)) (s (10 + 32 * k + 4)) (r k * (wtc s k - 200)) := by
    unfold chK
    rw [show 11 + 32 * k = 10 + 32 * k + 1 by omega, show 12 + 32 * k = 10 + 32 * k + 2 by omega, show 13 + 32 * k = 10 + 32 * k + 3 by omega, show 14 + 32 * k = 10 + 32 * k + 4 by omega, show 15 + 32 * k = 10 + 32 * k + 5 by omega]
  have a' : tkS s r (10 + 32 * k + 4) = chSi (s (10 + 32 * k + 1)) (s (10 + 32 * k + 2)) (s (10 + 32 * k + 3)) (s (10 + 32 * k + 5)) (s (10 + 32 * k + 4)) (r k * (wtc s k - 200)) := a
  have b' : tkS s r (10 + 32 * k + 6) = if (chB (s (10 + 32 * k + 1)) (s (10 + 32 * k + 2)) (s (10 + 32 * k + 3)) (s (10 + 32 * k + 5)) (s (10 + 32 * k + 4)) (r k * (wtc s k - 200)) && !(decide (chSi (s (10 + 32 * k + 1)) (s (10 + 32 * k + 2)) (s (10 + 32 * k + 3)) (s (10 + 32 * k + 5)) (s (10 + 32 * k + 4)) (r k * (wtc s k - 200)) = 0))) = true then s (10 + 32 * k + 6) + 1 else s (10 + 32 * k + 6) := b
  rw [show 14 + 32 * k = 10 + 32 * k + 4 by omega] at si ⊢
  rw [show 16 + 32 * k = 10 + 32 * k + 6 by omega, ec, a', b']
  generalize s (10 + 32 * k + 1) = lo at *
  generalize s (10 + 32 * k + 2) = hi at *
  generalize s (10 + 32 * k + 3) = la at *
  generalize s (10 + 32 * k + 5) = pu at *
  generalize s (10 + 32 * k + 6) = sn at *
  generalize s (10 + 32 * k + 4) = z at *
  generalize r k * (wtc s k - 200) = bd at *
  clear a b a' b' ec
  unfold chB chSi
  cases q1 : pulledF lo hi z bd with
  | false =>
    refine Or.inl ⟨rfl, ?_, ?_⟩
    · rw [if_pos rfl]
    · rw [Bool.false_and, Bool.false_and, if_neg (by decide)]
  | true =>
    by_cases q2 : la ≤ pu
    · rw [if_neg (by decide), if_pos q2, decide_eq_true q2]
      rcases si with rfl | rfl
      · exact Or.inr (Or.inl ⟨rfl, rfl, rfl, rfl⟩)
      · exact Or.inr (Or.inr ⟨rfl, rfl, rfl, rfl⟩)
    · rw [if_neg (by decide), if_neg q2, decide_eq_false q2]
      exact Or.inl ⟨rfl, rfl, rfl⟩
theorem tk_cnt {s r : Nat → Int32} (W : Wf s) {k : Nat} (hk : k < 3) : ∀ n, ∃ U D, U + D = chN s r k n ∧ U ≤ n ∧ D ≤ U + 1 ∧ tkD s r n (16 + 32 * k) = s (16 + 32 * k) + nI U ∧ (tkD s r n (14 + 32 * k) = 1 → D ≤ U ∧ (s (14 + 32 * k) = 0 → D + 1 ≤ U)) ∧ (tkD s r n (14 + 32 * k) = 0 → s (14 + 32 * k) = 0 → D ≤ U)
  | 0 => ⟨0, 0, rfl, Nat.le_refl _, by omega, (Int32.add_zero _).symm, fun z => ⟨Nat.le_refl _, fun z' => by
      have e : s (14 + 32 * k) = 1 := z
      rw [e] at z'
      cases z'⟩, fun _ _ => Nat.le_refl _⟩
  | n + 1 => by
    obtain ⟨U, D, h1, h2, h3, h4, h5, h6⟩ := tk_cnt W hk n
    have W' := W.tkDn (r := r) n
    have e0 : tkD s r (n + 1) = tkS (tkD s r n) r := rfl
    have ec : chN s r k (n + 1) = chN s r k n + ch01 (chK (tkD s r n) r k) := rfl
    rcases tk_one (r := r) W' hk with ⟨q, a, b⟩ | ⟨q, z, a, b⟩ | ⟨q, z, a, b⟩
    · refine ⟨U, D, ?_, by omega, h3, ?_, ?_, ?_⟩
      · rw [ec, q, h1]; rfl
      · rw [e0, b, h4]
      · rw [e0, a]; exact h5
      · rw [e0, a]; exact h6
    · refine ⟨U + 1, D, ?_, by omega, by omega, ?_, fun _ => ⟨by omega, fun z' => ?_⟩, fun z' => ?_⟩
      · rw [ec, q, ← h1]
        show U + 1 + D = U + D + 1
        omega
      · rw [e0, b, h4, Int32.add_assoc, show (1 : Int32) = nI 1 from rfl, nI_add]
      · have := h6 z z'
        omega
      · rw [e0, a] at z'
        cases z'
    · have y := h5 z
      refine ⟨U, D + 1, ?_, by omega, by omega, ?_, fun z' => ?_, fun _ z' => ?_⟩
      · rw [ec, q, ← h1]
        show U + (D + 1) = U + D + 1
        omega
      · rw [e0, b, h4]
      · rw [e0, a] at z'
        cases z'
      · exact y.2 z'
/-- what a call of tick answers: at least the snaps, at most twice the snaps and three -/
theorem tick_b {s r : Nat → Int32} (W : Wf s) {N : Nat} (hN : N ≤ 200) : ∃ U M, U ≤ M ∧ M ≤ 2 * U + 3 ∧ M ≤ 1300 ∧ U ≤ 600 ∧ tkE s r N = nI M ∧ tkD s r N 16 + tkD s r N 48 + tkD s r N 80 - (s 16 + s 48 + s 80) = nI U := by
  obtain ⟨U0, D0, a1, a2, a3, a4, -⟩ := tk_cnt (r := r) W (k := 0) (by decide) N
  obtain ⟨U1, D1, b1, b2, b3, b4, -⟩ := tk_cnt (r := r) W (k := 1) (by decide) N
  obtain ⟨U2, D2, c1, c2, c3, c4, -⟩ := tk_cnt (r := r) W (k := 2) (by decide) N
  refine ⟨U0 + U1 + U2, chN s r 0 N + chN s r 1 N + chN s r 2 N, by omega, by omega, by omega, by omega, tkE_c N, ?_⟩
  have a4' : tkD s r N 16 = s 16 + nI U0 := a4
  have b4' : tkD s r N 48 = s 48 + nI U1 := b4
  have c4' : tkD s r N 80 = s 80 + nI U2 := c4
  rw [a4', b4', c4', ← nI_add, ← nI_add]
  generalize s 16 = x
  generalize s 48 = y
  generalize s 80 = z
  generalize nI U0 = u
  generalize nI U1 = v
  generalize nI U2 = w
  rw [Int32.sub_eq_iff_eq_add]
  ac_rfl
