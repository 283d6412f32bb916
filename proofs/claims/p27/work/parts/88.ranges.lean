/-! ranges of a row's numbers -/
theorem isIn_z {v a b : Int32} : isIn v a b = true ↔ a.toInt ≤ v.toInt ∧ v.toInt ≤ b.toInt := by
  unfold isIn
  simp only [Bool.and_eq_true, Bool.not_eq_true', decide_eq_false_iff_not, Int32.lt_iff_toInt_lt, Int.not_lt]
def rgS (i : Nat) : Int32 × Int32 := if i = 0 then (0, 8) else if i = 1 ∨ i = 2 then (-90000, 90000) else if i = 3 ∨ i = 5 then (0, 5) else if i = 4 ∨ i = 7 then (0, 1) else if i = 6 then (-2147483648, 2147483647) else if (i - 8) % 3 = 0 then (0, 9) else (0, 5)
def rgR (i : Nat) : Int32 × Int32 := if i = 0 then (-500, 1500) else if i = 1 then (0, 99) else if i = 2 then (1, 99) else if i = 3 then (0, 1) else (-2147483648, 2147483647)
def rg (j : Nat) : Int32 × Int32 := if j < 6 then (0, 30) else if j = 6 then (0, 99) else if j = 7 then (1, 999) else if j = 8 then (-500, 1500) else if j = 9 then (-2147483648, 2147483647) else if j < 106 then rgS ((j - 10) % 32) else rgR ((j - 106) % 7)
theorem rg_S {k i : Nat} (hk : k < 3) (hi : i < 32) : rg (10 + 32 * k + i) = rgS i := by
  unfold rg
  rw [if_neg (by omega), if_neg (by omega), if_neg (by omega), if_neg (by omega), if_neg (by omega), if_pos (by omega)]
  exact congrArg rgS (by omega)
theorem rg_R {k i : Nat} (hi : i < 7) : rg (106 + 7 * k + i) = rgR i := by
  unfold rg
  rw [if_neg (by omega), if_neg (by omega), if_neg (by omega), if_neg (by omega), if_neg (by omega), if_neg (by omega)]
  exact congrArg rgR (by omega)
def Wf (s : Nat → Int32) : Prop := ∀ j, j < 127 → isIn (s j) (rg j).1 (rg j).2 = true
theorem isIn_f (x : Int32) : isIn x (-2147483648) 2147483647 = true := isIn_z.mpr ⟨Int32.le_toInt x, Int32.toInt_le x⟩
theorem Wf.upd {s : Nat → Int32} (W : Wf s) {j : Nat} {v : Int32} (h : isIn v (rg j).1 (rg j).2 = true) : Wf (upd s j v) := by
  intro i hi
  rw [upd_app]
  by_cases q : i = j
  · rw [if_pos q, q]; exact h
  · rw [if_neg q]; exact W i hi
section
variable {s : Nat → Int32} {k i j : Nat}
theorem Wf.S (W : Wf s) (hk : k < 3) (hi : i < 32) : isIn (s (10 + 32 * k + i)) (rgS i).1 (rgS i).2 = true := by
  have h := W (10 + 32 * k + i) (by omega)
  rw [rg_S hk hi] at h
  exact h
theorem Wf.R (W : Wf s) (hk : k < 3) (hi : i < 7) : isIn (s (106 + 7 * k + i)) (rgR i).1 (rgR i).2 = true := by
  have h := W (106 + 7 * k + i) (by omega)
  rw [rg_R hi] at h
  exact h
theorem Wf.num (W : Wf s) (hj : j < 6) : ∃ N, N ≤ 30 ∧ s j = nI N := by
  have h := W j (by omega)
  unfold rg at h
  rw [if_pos hj] at h
  exact isIn0 (B := 30) rfl h
theorem Wf.cnt (W : Wf s) (hk : k < 3) : ∃ N, N ≤ 8 ∧ s (10 + 32 * k) = nI N := isIn0 (B := 8) rfl (W.S hk (i := 0) (by decide))
theorem Wf.one {x : Int32} (h : isIn x 0 1 = true) : x = 0 ∨ x = 1 := by
  obtain ⟨V, hV, rfl⟩ := isIn0 (B := 1) rfl h
  have : V = 0 ∨ V = 1 := by omega
  rcases this with rfl | rfl
  · exact Or.inl rfl
  · exact Or.inr rfl
theorem Wf.si (W : Wf s) (hk : k < 3) : s (14 + 32 * k) = 0 ∨ s (14 + 32 * k) = 1 := by
  have h := W.S hk (i := 4) (by decide)
  rw [show 10 + 32 * k + 4 = 14 + 32 * k by omega] at h
  exact Wf.one h
theorem Wf.ki (W : Wf s) (hk : k < 3) : s (17 + 32 * k) = 0 ∨ s (17 + 32 * k) = 1 := by
  have h := W.S hk (i := 7) (by decide)
  rw [show 10 + 32 * k + 7 = 17 + 32 * k by omega] at h
  exact Wf.one h
theorem Wf.op (W : Wf s) (hk : k < 3) : s (109 + 7 * k) = 0 ∨ s (109 + 7 * k) = 1 := by
  have h := W.R hk (i := 3) (by decide)
  rw [show 106 + 7 * k + 3 = 109 + 7 * k by omega] at h
  exact Wf.one h
theorem Wf.dv (W : Wf s) (hk : k < 3) : ¬ s (108 + 7 * k) = 0 := by
  have h := W.R hk (i := 2) (by decide)
  rw [show 106 + 7 * k + 2 = 108 + 7 * k by omega] at h
  exact isIn1_ne h
theorem Wf.okR (W : Wf s) : ∀ k, k < 3 → OkR s k := fun k hk => ⟨W.dv hk, W.si hk, W.op hk, W.op (Nat.mod_lt _ (by decide))⟩
theorem Wf.boS (W : Wf s) : BoS s := ⟨W.si (k := 0) (by decide), W.si (k := 1) (by decide), W.si (k := 2) (by decide), W.op (k := 0) (by decide), W.op (k := 1) (by decide), W.op (k := 2) (by decide)⟩
theorem Wf.numOk (W : Wf s) : NumOk s := fun _ hj => W.num hj
theorem Wf.pL (W : Wf s) (hk : k < 3) (hi : i < 8) : ∃ L, L ≤ 9 ∧ s (10 + 32 * k + (8 + 3 * i)) = nI L := by
  have h := W.S hk (i := 8 + 3 * i) (by omega)
  unfold rgS at h
  rw [if_neg (by omega), if_neg (by omega), if_neg (by omega), if_neg (by omega), if_neg (by omega), if_pos (by omega)] at h
  exact isIn0 (B := 9) rfl h
theorem Wf.pU (W : Wf s) (hk : k < 3) (hi : i < 8) : ∃ M, M ≤ 5 ∧ s (10 + 32 * k + (9 + 3 * i)) = nI M := by
  have h := W.S hk (i := 9 + 3 * i) (by omega)
  unfold rgS at h
  rw [if_neg (by omega), if_neg (by omega), if_neg (by omega), if_neg (by omega), if_neg (by omega), if_neg (by omega)] at h
  exact isIn0 (B := 5) rfl h
theorem Wf.pW (W : Wf s) (hk : k < 3) (hi : i < 8) : ∃ M, M ≤ 5 ∧ s (10 + 32 * k + (10 + 3 * i)) = nI M := by
  have h := W.S hk (i := 10 + 3 * i) (by omega)
  unfold rgS at h
  rw [if_neg (by omega), if_neg (by omega), if_neg (by omega), if_neg (by omega), if_neg (by omega), if_neg (by omega)] at h
  exact isIn0 (B := 5) rfl h
theorem Wf.wfT (W : Wf s) (hk : k < 3) : WfT s (10 + 32 * k) := by
  obtain ⟨N, hN, e⟩ := W.cnt hk
  have c : (s (10 + 32 * k)).toNatClampNeg = N := by rw [e]; exact nI_clamp (by omega)
  refine ⟨by rw [e]; exact nI_pos (by omega), by rw [c]; exact hN, fun i hi => ?_⟩
  rw [c] at hi
  obtain ⟨x, hx, ex⟩ := W.pU hk (i := i) (by omega)
  obtain ⟨y, hy, ey⟩ := W.pW hk (i := i) (by omega)
  rw [ex, ey]
  exact ⟨vp_in_nI (by omega) (by decide), vp_in_nI (by omega) (by decide)⟩
theorem Wf.wfS (W : Wf s) : WfS s := ⟨W.wfT (k := 0) (by decide), W.wfT (k := 1) (by decide), W.wfT (k := 2) (by decide)⟩
theorem sumF_z {f : Nat → Int32} : ∀ {n : Nat}, (∀ i, i < n → ∃ z : Int, -270 ≤ z ∧ z ≤ 270 ∧ f i = zI z) → ∃ z : Int, -270 * n ≤ z ∧ z ≤ 270 * n ∧ sumF f n = zI z
  | 0, _ => ⟨0, by omega, by omega, rfl⟩
  | n + 1, h => by
    obtain ⟨z, h1, h2, e⟩ := sumF_z (n := n) (fun i hi => h i (by omega))
    obtain ⟨y, h3, h4, e'⟩ := h n (by omega)
    refine ⟨z + y, by omega, by omega, ?_⟩
    show sumF f n + f n = _
    rw [e, e', zI_add]
theorem Wf.rtz (W : Wf s) (hk : k < 3) : ∃ z : Int, -2160 ≤ z ∧ z ≤ 2160 ∧ rt s (10 + 32 * k) = zI z := by
  obtain ⟨N, hN, e⟩ := W.cnt hk
  have c : (s (10 + 32 * k)).toNatClampNeg = N := by rw [e]; exact nI_clamp (by omega)
  obtain ⟨z, h1, h2, ez⟩ := sumF_z (f := rateP (fun i => s (10 + 32 * k + (8 + 3 * i))) (fun i => s (10 + 32 * k + (9 + 3 * i))) (fun i => s (10 + 32 * k + (10 + 3 * i))) s) (n := N) (fun i hi => by
    obtain ⟨L, hL, eL⟩ := W.pL hk (i := i) (by omega)
    obtain ⟨x, hx, ex⟩ := W.pU hk (i := i) (by omega)
    obtain ⟨y, hy, ey⟩ := W.pW hk (i := i) (by omega)
    obtain ⟨a, ha, ea⟩ := W.num (j := x) (by omega)
    obtain ⟨b, hb, eb⟩ := W.num (j := y) (by omega)
    have bd := ld_bd (l := L) (x := (a : Int) - b) hL ⟨by omega, by omega⟩
    refine ⟨L * ((a : Int) - b), bd.1, bd.2, ?_⟩
    show s (10 + 32 * k + (8 + 3 * i)) * (s (s (10 + 32 * k + (9 + 3 * i))).toNatClampNeg - s (s (10 + 32 * k + (10 + 3 * i))).toNatClampNeg) = _
    rw [eL, ex, ey, nI_clamp (by omega), nI_clamp (by omega), ea, eb, zI_n, zI_n, zI_n, zI_sub, zI_mul])
  refine ⟨z, by omega, by omega, ?_⟩
  unfold rt rateF
  rw [c]
  exact ez
end
theorem Wf.wm {s : Nat → Int32} (W : Wf s) {k : Nat} (hk : k < 3) : isIn (s (106 + 7 * k)) (-500) 1500 = true := W.R hk (i := 0) (by decide)
/-! ranges behind a tick -/
theorem isIn_cl (w : Int32) : isIn (clampF w) (-500) 1500 = true := by
  refine isIn_z.mpr ?_
  unfold clampF maxF minF
  have e1 : (-500 : Int32).toInt = -500 := rfl
  have e2 : (1500 : Int32).toInt = 1500 := rfl
  by_cases q : 1500 < w
  · rw [if_pos q, if_pos (by decide), e1, e2]; decide
  · rw [if_neg q]
    by_cases q2 : (-500 : Int32) < w
    · rw [if_pos q2]
      rw [Int32.lt_iff_toInt_lt] at q q2
      omega
    · rw [if_neg q2, e1, e2]; decide
theorem wtc_in (s : Nat → Int32) (k : Nat) : isIn (wtc s k) (-500) 1500 = true := by
  unfold wtc wtG
  exact isIn_cl _

