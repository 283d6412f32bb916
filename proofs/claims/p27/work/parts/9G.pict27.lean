/-! what holds of a row; the class's picture between two calls -/
def Ex (s : Nat → Int32) : Prop := (∀ k, k < 3 → s (11 + 32 * k) < s (12 + 32 * k)) ∧ (¬ s 9 = 0 → ∀ k, k < 3 → s (112 + 7 * k) ≤ s (111 + 7 * k)) ∧ ∀ k, k < 3 → s (110 + 7 * k) ≤ s 9
def ExP (j : Nat) : Prop := j = 9 ∨ ∃ k, k < 3 ∧ (j = 11 + 32 * k ∨ j = 12 + 32 * k ∨ j = 110 + 7 * k ∨ j = 111 + 7 * k ∨ j = 112 + 7 * k)
theorem Ex.same {s F : Nat → Int32} (H : Ex s) (e : ∀ j, ExP j → F j = s j) : Ex F := by
  obtain ⟨h1, h2, h3⟩ := H
  have e9 : F 9 = s 9 := e 9 (Or.inl rfl)
  refine ⟨fun k hk => ?_, fun h k hk => ?_, fun k hk => ?_⟩
  · rw [e _ (Or.inr ⟨k, hk, Or.inl rfl⟩), e _ (Or.inr ⟨k, hk, Or.inr (Or.inl rfl)⟩)]
    exact h1 k hk
  · rw [e9] at h
    rw [e _ (Or.inr ⟨k, hk, Or.inr (Or.inr (Or.inr (Or.inl rfl)))⟩), e _ (Or.inr ⟨k, hk, Or.inr (Or.inr (Or.inr (Or.inr rfl)))⟩)]
    exact h2 h k hk
  · rw [e9, e _ (Or.inr ⟨k, hk, Or.inr (Or.inr (Or.inl rfl))⟩)]
    exact h3 k hk
theorem Ex.u {s : Nat → Int32} (H : Ex s) {i : Nat} {v : Int32} (hi : ¬ ExP i) : Ex (upd s i v) := H.same (fun j hj => by
  rw [upd_app, if_neg]
  exact fun z => hi (z ▸ hj))
theorem exP_st {i j : Nat} {k : Nat} (hk : k < 3) (hi : i < 32) (h1 : ¬ i = 1) (h2 : ¬ i = 2) (hj : j = 10 + 32 * k + i) : ¬ ExP j := by
  rintro (z | ⟨k', hk', z⟩) <;> omega
theorem exP_rm {i j : Nat} {k : Nat} (hk : k < 3) (hi : i < 4) (hj : j = 106 + 7 * k + i) : ¬ ExP j := by
  rintro (z | ⟨k', hk', z⟩) <;> omega
theorem exP_lo {j : Nat} (h : j < 9) : ¬ ExP j := by
  rintro (z | ⟨k', hk', z⟩) <;> omega
theorem Ex.part {s : Nat → Int32} (H : Ex s) {k N : Nat} (hk : k < 3) (hN : N < 8) (x y z : Int32) : Ex (fPart s k N x y z) := by
  unfold fPart
  exact (((H.u (exP_st (i := 8 + 3 * N) hk (by omega) (by omega) (by omega) (by omega))).u (exP_st (i := 8 + 3 * N + 1) hk (by omega) (by omega) (by omega) (by omega))).u (exP_st (i := 8 + 3 * N + 2) hk (by omega) (by omega) (by omega) (by omega))).u (exP_st (i := 0) hk (by omega) (by omega) (by omega) (by omega))
theorem Ex.rd {s f : Nat → Int32} (H : Ex s) {k : Nat} (hk : k < 3) : ∀ i, i ≤ 8 → Ex (rdC s f k i)
  | 0, _ => by
    unfold rdC
    exact H.u (exP_st (i := 0) hk (by omega) (by omega) (by omega) (by omega))
  | i + 1, hi => by
    unfold rdC
    exact (Ex.rd H hk i (by omega)).part hk (by omega) _ _ _
theorem Ex.bnd {s : Nat → Int32} (H : Ex s) {k : Nat} (hk : k < 3) {lo hi la : Int32} (h : lo < hi) : Ex (bndS s k lo hi la) := by
  obtain ⟨h1, h2, h3⟩ := H
  have o : ∀ j, ¬ j = 10 + 32 * k + 1 → ¬ j = 10 + 32 * k + 2 → ¬ j = 10 + 32 * k + 3 → bndS s k lo hi la j = s j := fun j a b c => by
    unfold bndS
    rw [upd_app, if_neg c, upd_app, if_neg b, upd_app, if_neg a]
  have e1 : bndS s k lo hi la (11 + 32 * k) = lo := by
    unfold bndS
    rw [upd_app, if_neg (by omega), upd_app, if_neg (by omega), upd_app, if_pos (by omega)]
  have e2 : bndS s k lo hi la (12 + 32 * k) = hi := by
    unfold bndS
    rw [upd_app, if_neg (by omega), upd_app, if_pos (by omega)]
  have e9 : bndS s k lo hi la 9 = s 9 := o 9 (by omega) (by omega) (by omega)
  refine ⟨fun k' hk' => ?_, fun z k' hk' => ?_, fun k' hk' => ?_⟩
  · by_cases q : k' = k
    · subst q
      rw [e1, e2]
      exact h
    · rw [o _ (by omega) (by omega) (by omega), o _ (by omega) (by omega) (by omega)]
      exact h1 k' hk'
  · rw [e9] at z
    rw [o _ (by omega) (by omega) (by omega), o _ (by omega) (by omega) (by omega)]
    exact h2 z k' hk'
  · rw [e9, o _ (by omega) (by omega) (by omega)]
    exact h3 k' hk'
theorem tire_lt {sn hi lo un y : Int32} (h : lo < hi) : lo < tireF sn hi lo un y := by
  unfold tireF
  split
  · exact h
  · split
    · exact h
    · split
      · exact h
      · rename_i q
        exact Int32.not_le.mp q
theorem mm_le (g w e : Int32) : minF g w ≤ maxF e w := by
  have a : minF g w ≤ w := by
    unfold minF
    split
    · exact Int32.le_refl _
    · rename_i q
      exact Int32.not_lt.mp q
  have b : w ≤ maxF e w := by
    unfold maxF
    split
    · exact Int32.le_refl _
    · rename_i q
      exact Int32.not_lt.mp q
  exact Int32.le_trans a b
theorem inc_le {x y : Int32} {b : Bool} (h : x ≤ y) (hy : y.toInt + 1 < 2147483648) : x + (if b = false then 0 else 1) ≤ y + 1 := by
  have t1 : (y + 1).toInt = y.toInt + 1 := by
    have l := Int32.le_toInt y
    rw [zI_of y, zI_t (by omega) (by omega), show (1 : Int32) = zI 1 from rfl, zI_add, zI_t (by omega) (by omega)]
  rw [Int32.le_iff_toInt_le] at h
  rw [Int32.le_iff_toInt_le, t1]
  split
  · rw [Int32.add_zero]
    omega
  · have l := Int32.le_toInt x
    have t2 : (x + 1).toInt = x.toInt + 1 := by
      rw [zI_of x, zI_t (by omega) (by omega), show (1 : Int32) = zI 1 from rfl, zI_add, zI_t (by omega) (by omega)]
    omega
theorem Ex.tk {s r : Nat → Int32} (H : Ex s) {T : Nat} (h9 : s 9 = nI T) (hT : T + 1 < 2 ^ 31) : Ex (tkS s r) := by
  obtain ⟨h1, h2, h3⟩ := H
  refine ⟨fun k hk => ?_, fun _ k hk => ?_, fun k hk => ?_⟩
  · have a := tsT (s := s) (r := r) hk (i := 1) (by decide)
    have b := tsT (s := s) (r := r) hk (i := 2) (by decide)
    rw [show 10 + 32 * k + 1 = 11 + 32 * k by omega] at a
    rw [show 10 + 32 * k + 2 = 12 + 32 * k by omega] at b
    rw [a, b]
    have q := h1 k hk
    rw [show 11 + 32 * k = 10 + 32 * k + 1 by omega, show 12 + 32 * k = 10 + 32 * k + 2 by omega] at q
    show s (10 + 32 * k + 1) < (if mvU (fun i => s (10 + 32 * k + i)) _ = true then tireF (s (10 + 32 * k + 6) + 1) (s (10 + 32 * k + 2)) (s (10 + 32 * k + 1)) (s 6) (s 7) else s (10 + 32 * k + 2))
    split
    · exact tire_lt q
    · exact q
  · have a := tsR (s := s) (r := r) hk (i := 5) (by decide)
    have b := tsR (s := s) (r := r) hk (i := 6) (by decide)
    rw [show 106 + 7 * k + 5 = 111 + 7 * k by omega] at a
    rw [show 106 + 7 * k + 6 = 112 + 7 * k by omega] at b
    rw [a, b]
    exact mm_le _ _ _
  · have a := tsR (s := s) (r := r) hk (i := 4) (by decide)
    rw [show 106 + 7 * k + 4 = 110 + 7 * k by omega] at a
    rw [a, ts9]
    exact inc_le (h3 k hk) (by rw [h9, nI_toInt (by omega)]; omega)
theorem Ex.tkDn {s r : Nat → Int32} (H : Ex s) {T : Nat} (h9 : s 9 = nI T) : ∀ n, T + n < 2 ^ 31 → Ex (tkD s r n)
  | 0, _ => H
  | n + 1, hn => (Ex.tkDn H h9 n (by omega)).tk (tkD_9 h9 n) (by omega)
def Iv (B : Nat) (s : Nat → Int32) : Prop := (∃ R, RB B s R) ∧ Ex s
section
variable {B B' : Nat} {s : Nat → Int32}
theorem Iv.wf (H : Iv B s) : Wf s := by
  obtain ⟨⟨R, h⟩, -⟩ := H
  exact h.2.2.1
theorem Iv.t (H : Iv B s) : ∃ T, T ≤ B ∧ s 9 = nI T := by
  obtain ⟨⟨R, h⟩, -⟩ := H
  exact h.2.2.2
theorem Iv.mono (H : Iv B s) (h : B ≤ B') : Iv B' s := by
  obtain ⟨⟨R, h1⟩, h2⟩ := H
  exact ⟨⟨R, h1.mono h⟩, h2⟩
theorem Iv.of {v : Bool} {x : Int32} {F : Nat → Int32} {x' : Int32} {F' : Nat → Int32} (K : ActOk B v x F x' F') (hv : v = true) (h : Ex F) : Iv B F := ⟨⟨F', (K.2.2 hv).2⟩, h⟩
theorem Iv.metal (H : Iv B s) (x y : Int32) (hv : vMetal x y = true) : Iv B (upd s x.toNatClampNeg y) := by
  obtain ⟨⟨R, h1⟩, h2⟩ := H
  refine Iv.of (act_metal h1 x y) hv (h2.u (exP_lo ?_))
  unfold vMetal at hv
  rw [Bool.and_eq_true] at hv
  obtain ⟨X, hX, rfl⟩ := isIn0 (B := 5) rfl hv.1
  rw [nI_clamp (by omega)]
  omega
theorem Iv.outside (H : Iv B s) (x : Int32) (hv : isIn x (-500) 1500 = true) : Iv B (upd s 8 x) := by
  obtain ⟨⟨R, h1⟩, h2⟩ := H
  exact Iv.of (act_outside h1 x) hv (h2.u (exP_lo (by decide)))
theorem vW_k {x y : Int32} (hv : vWarm x y = true) : x.toNatClampNeg < 3 := by
  unfold vWarm at hv
  rw [Bool.and_eq_true] at hv
  exact kOf hv.1
theorem vC_k {x y : Int32} (hv : vContact x y = true) : x.toNatClampNeg < 3 := by
  unfold vContact at hv
  rw [Bool.and_eq_true] at hv
  exact kOf hv.1
theorem vH_k {x y z : Int32} (hv : vHeat x y z = true) : x.toNatClampNeg < 3 := by
  unfold vHeat at hv
  rw [Bool.and_eq_true] at hv
  exact kOf hv.1
theorem vCut_k {x y : Int32} (hv : vCut s x y = true) : x.toNatClampNeg < 3 := by
  unfold vCut at hv
  rw [Bool.and_eq_true] at hv
  exact kOf hv.1
theorem vP_k {x y z w : Int32} (hv : vPart s x y z w = true) : x.toNatClampNeg < 3 := by
  unfold vPart at hv
  rw [Bool.and_eq_true] at hv
  exact kOf hv.1
theorem Iv.warm (H : Iv B s) (x y : Int32) (hv : vWarm x y = true) : Iv B (upd s (106 + 7 * x.toNatClampNeg) y) := by
  obtain ⟨⟨R, h1⟩, h2⟩ := H
  exact Iv.of (act_warm h1 x y) hv (h2.u (exP_rm (i := 0) (vW_k hv) (by decide) (by omega)))
theorem Iv.set (H : Iv B s) (x y : Int32) (hv : isSet x y = true) : Iv B (upd s (6 + x.toNatClampNeg) y) := by
  obtain ⟨⟨R, h1⟩, h2⟩ := H
  refine Iv.of (act_set h1 x y) hv (h2.u (exP_lo ?_))
  unfold isSet at hv
  by_cases q : x = 0
  · subst q
    decide
  · rw [if_neg q, Bool.and_eq_true, decide_eq_true_eq] at hv
    obtain ⟨rfl, -⟩ := hv
    decide
theorem Iv.heat (H : Iv B s) (x y z : Int32) (hv : vHeat x y z = true) : Iv B (fHeat s x y z) := by
  obtain ⟨⟨R, h1⟩, h2⟩ := H
  have hk := vH_k hv
  refine Iv.of (act_heat h1 x y z) hv ?_
  unfold fHeat
  exact (h2.u (exP_rm (i := 1) hk (by decide) (by omega))).u (exP_rm (i := 2) hk (by decide) (by omega))
theorem Iv.contact (H : Iv B s) (x y : Int32) (hv : vContact x y = true) : Iv B (upd s (10 + 32 * x.toNatClampNeg + 7) y) := by
  obtain ⟨⟨R, h1⟩, h2⟩ := H
  exact Iv.of (act_contact h1 x y) hv (h2.u (exP_st (i := 7) (vC_k hv) (by decide) (by decide) (by decide) (by omega)))
theorem Iv.opening (H : Iv B s) (x y : Int32) (hv : vContact x y = true) : Iv B (fOpening s x y) := by
  obtain ⟨⟨R, h1⟩, h2⟩ := H
  refine Iv.of (act_opening h1 x y) hv ?_
  unfold fOpening
  exact h2.u (exP_rm (i := 3) (vC_k hv) (by decide) (by omega))
theorem Iv.part (H : Iv B s) (x y z w : Int32) (hv : vPart s x y z w = true) : Iv B (fPart s x.toNatClampNeg (nPt s x) y z w) := by
  obtain ⟨⟨R, h1⟩, h2⟩ := H
  have hk := vP_k hv
  have n8 := (h1.npt hk).2.1
  refine Iv.of (act_part h1 x y z w) hv (h2.part hk ?_ _ _ _)
  unfold vPart at hv
  simp only [Bool.and_eq_true, Bool.not_eq_true', decide_eq_false_iff_not] at hv
  omega
theorem Iv.cut (H : Iv B s) (x y : Int32) (hv : vCut s x y = true) : Iv B (upd s (10 + 32 * x.toNatClampNeg) (nI (nPt s x - y.toNatClampNeg))) := by
  obtain ⟨⟨R, h1⟩, h2⟩ := H
  exact Iv.of (act_cut h1 x y) hv (h2.u (exP_st (i := 0) (vCut_k hv) (by decide) (by decide) (by decide) (by omega)))
theorem vB_lt {x y z w : Int32} (hv : vBounds x y z w = true) : y < z := by
  unfold vBounds at hv
  simp only [Bool.and_eq_true] at hv
  have a := isIn_z.mp hv.2.1
  have b := isIn_z.mp hv.2.2.1
  have c : (89999 : Int32).toInt = 89999 := rfl
  have d : (-90000 : Int32).toInt = -90000 := rfl
  have t1 : (y + 1).toInt = y.toInt + 1 := by
    rw [zI_of y, zI_t (by omega) (by omega), show (1 : Int32) = zI 1 from rfl, zI_add, zI_t (by omega) (by omega)]
  rw [Int32.lt_iff_toInt_lt]
  omega
theorem Iv.bounds (H : Iv B s) (x y z w : Int32) (hv : vBounds x y z w = true) : Iv B (bndS s x.toNatClampNeg y z w) := by
  obtain ⟨⟨R, h1⟩, h2⟩ := H
  have lt := vB_lt hv
  refine Iv.of (act_bounds h1 x y z w) hv (h2.bnd ?_ lt)
  unfold vBounds at hv
  rw [Bool.and_eq_true] at hv
  exact kOf hv.1
theorem Iv.tick (H : Iv B s) (hB : B ≤ 1000000) (x : Int32) (hv : isIn x 1 200 = true) : Iv (B + 200) (tkD s (rts s) x.toNatClampNeg) := by
  obtain ⟨⟨R, h1⟩, h2⟩ := H
  obtain ⟨T, hT, e9⟩ := h1.2.2.2
  refine Iv.of (act_tick h1 hB x) hv (h2.tkDn e9 _ ?_)
  obtain ⟨X, hX, rfl⟩ := isIn1 (B := 200) (a := 1) (by decide) rfl hv
  rw [nI_clamp (by omega)]
  omega
theorem Iv.read (H : Iv B s) {n : Nat} {f : Nat → Int32} (hn : n ≤ 60) (x : Int32) (hv : vRead f n x = true) (h8 : (n + 1) / 4 ≤ 8) : Iv B (rdC s f x.toNatClampNeg ((n + 1) / 4)) := by
  obtain ⟨⟨R, h1⟩, h2⟩ := H
  have K := act_read h1 hn (f := f) (f' := f) (fun _ _ => rfl) x
  refine Iv.of K hv (h2.rd ?_ _ h8)
  unfold vRead at hv
  rw [Bool.and_eq_true] at hv
  exact kOf hv.1
end
theorem Ex_0 : Ex s0 := by
  refine ⟨by decide +kernel, fun h => absurd (show s0 9 = 0 by decide +kernel) h, by decide +kernel⟩
theorem Iv_0 : Iv 0 s0 := ⟨⟨s0R, RB_0 (fun _ _ => rfl)⟩, Ex_0⟩
/-! the class's picture -/
def CI7 (ca : Nat → ClassId) (h : PH) (g : Nat → Nat) (lk : Int32) (s : Nat → Int32) (oo ss : Nat) (S : Nat → Nat → Int32) (n : Nat) (f : Nat → Int32) (fo le pe sn : Int32) : Prop := CN ca h (g 0) (bN g) (g 23) (g 24) (BN g) (g 113) (g 115) (g 141) lk s oo ss S ∧ XAt ca h (g 113) (g 114) n f ∧ LF ca h (g 115) (tbN g) (g 138) (g 139) (g 140) fo le pe sn
def nrep (s : Nat → Int32) : Prop := ∀ a c, a < c → c ≤ 1500 → ¬ kyQ s a = kyQ s c
def LCx (ca : Nat → ClassId) (h : PH) (g : Nat → Nat) (B : Nat) (s : Nat → Int32) (ss : Nat) (T : Nat → Int32) (n : Nat) (f : Nat → Int32) (lk : Int32) (oo : Nat) (S : Nat → Nat → Int32) (fo le pe sn : Int32) : Prop := Inj g ∧ CI7 ca h g lk s oo ss S n f fo le pe sn ∧ (lk = 0 ∨ (lk = 1 ∧ LoopRes s fo le pe sn)) ∧ Iv B s ∧ (∀ i, i < ss → Iv B (S ((oo + i) % 4))) ∧ (0 < ss → S ((oo + (ss - 1)) % 4) = T)
def LC (ca : Nat → ClassId) (h : PH) (g : Nat → Nat) (B : Nat) (s : Nat → Int32) (ss : Nat) (T : Nat → Int32) (n : Nat) (f : Nat → Int32) : Prop := ∃ lk oo S fo le pe sn, LCx ca h g B s ss T n f lk oo S fo le pe sn
section
variable {ca : Nat → ClassId} {h h' : PH} {g : Nat → Nat} {B B' : Nat} {s : Nat → Int32} {ss : Nat} {T : Nat → Int32} {n : Nat} {f : Nat → Int32} {lk : Int32} {oo : Nat} {S : Nat → Nat → Int32} {fo le pe sn : Int32}
theorem LC.cell (H : LC ca h g B s ss T n f) : ∃ fs, h (g 0) = some (.inr (7, fs)) := by
  obtain ⟨lk, oo, S, fo, le, pe, sn, H⟩ := H
  exact ⟨_, H.2.1.1.1⟩
theorem LC.mono (hB : B ≤ B') (H : LC ca h g B s ss T n f) : LC ca h g B' s ss T n f := by
  obtain ⟨lk, oo, S, fo, le, pe, sn, h1, h2, h3, h4, h5, h6⟩ := H
  exact ⟨lk, oo, S, fo, le, pe, sn, h1, h2, h3, h4.mono hB, fun i hi => (h5 i hi).mono hB, h6⟩
theorem LC.wf (H : LC ca h g B s ss T n f) : Wf s := by
  obtain ⟨lk, oo, S, fo, le, pe, sn, h1, h2, h3, h4, h5, h6⟩ := H
  exact h4.wf
theorem LC.iv (H : LC ca h g B s ss T n f) : Iv B s := by
  obtain ⟨lk, oo, S, fo, le, pe, sn, h1, h2, h3, h4, h5, h6⟩ := H
  exact h4
theorem LC.s4 (H : LC ca h g B s ss T n f) : ss ≤ 4 := by
  obtain ⟨lk, oo, S, fo, le, pe, sn, h1, h2, h3, h4, h5, h6⟩ := H
  exact h2.1.2.2.2.2.2.2
theorem LC.n60 (H : LC ca h g B s ss T n f) : n ≤ 60 := by
  obtain ⟨lk, oo, S, fo, le, pe, sn, h1, h2, h3, h4, h5, h6⟩ := H
  exact h2.2.1.2.2
/-! the history behind an act -/
theorem hi_z (h4 : ss ≤ 4) (o4 : oo < 4) : 0 < hiZ ss ∧ (hiO oo ss + (hiZ ss - 1)) % 4 = (oo + ss) % 4 ∧ ∀ i, i < hiZ ss → (hiO oo ss + i) % 4 = (oo + ss) % 4 ∨ ∃ j, j < ss ∧ (hiO oo ss + i) % 4 = (oo + j) % 4 ∧ ¬ (oo + j) % 4 = (oo + ss) % 4 := by
  unfold hiZ hiO
  by_cases q : ss < 4
  · rw [if_pos q, if_pos q]
    refine ⟨by omega, by congr 1, fun i hi => ?_⟩
    by_cases e : i = ss
    · subst e
      exact Or.inl rfl
    · exact Or.inr ⟨i, by omega, rfl, by omega⟩
  · rw [if_neg q, if_neg q]
    refine ⟨by omega, by omega, fun i hi => ?_⟩
    by_cases e : i = 3
    · subst e
      exact Or.inl (by omega)
    · exact Or.inr ⟨i + 1, by omega, by omega, by omega⟩
theorem SmC_g (hg : Inj g) (hm : SmC (g 0) (bN g) (g 23) (BN g) h h') {i : Nat} (hi : i = 24 ∨ 113 ≤ i) : h' (g i) = h (g i) := hm _ (gne hg (by omega)) (fun k hk => gne hg (by omega)) (gne hg (by omega)) (fun j hj k hk => gne hg (by omega))
theorem act7 (H : LCx ca h g B s ss T n f lk oo S fo le pe sn) (hB : B ≤ B') {v : Bool} {x : Int32} {F : Nat → Int32} {post : Option Value → PH → Prop} (hI : v = true → Iv B' F) (h0 : v = false → post (some (.int x)) h) (h1 : v = true → ∀ h1, LC ca h1 g B' F (hiZ ss) s n f → post (some (.int x)) h1) : actC ca h (g 0) (bN g) (g 23) (g 24) (BN g) (g 113) (g 115) (g 141) s oo ss S post v x F := by
  obtain ⟨A, hC, hl, hb, hh, ht⟩ := H
  have h4 : ss ≤ 4 := hC.1.2.2.2.2.2.2
  have o4 : oo < 4 := hC.1.2.2.2.2.2.1
  refine ⟨h0, fun hv h2 hN hm => h1 hv h2 ?_⟩
  obtain ⟨z1, z2, z3⟩ := hi_z h4 o4
  refine ⟨0, hiO oo ss, hiS oo ss S s, fo, le, pe, sn, A, ⟨hN, XAt_k hC.2.1 (SmC_g A hm (by omega)) (SmC_g A hm (by omega)), LF_k hC.2.2 (fun i h1 h2 => SmC_g A hm (by omega))⟩, Or.inl rfl, hI hv, fun i hi => ?_, fun _ => ?_⟩
  · rcases z3 i hi with e | ⟨j, hj, e, ne⟩
    · rw [e]
      unfold hiS
      rw [if_pos rfl]
      exact hb.mono hB
    · rw [e]
      unfold hiS
      rw [if_neg ne]
      exact (hh j hj).mono hB
  · rw [z2]
    unfold hiS
    rw [if_pos rfl]
end
