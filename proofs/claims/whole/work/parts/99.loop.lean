/-! the loop: the class's first return and the reference's search from the end tell the same -/
def CstE (s t : Nat → Int32) : Prop := (∀ k, k < 3 → s (11 + 32 * k) = t (11 + 32 * k) ∧ s (12 + 32 * k) = t (12 + 32 * k) ∧ s (13 + 32 * k) = t (13 + 32 * k) ∧ s (17 + 32 * k) = t (17 + 32 * k) ∧ s (107 + 7 * k) = t (107 + 7 * k) ∧ s (108 + 7 * k) = t (108 + 7 * k) ∧ s (109 + 7 * k) = t (109 + 7 * k)) ∧ s 6 = t 6 ∧ s 7 = t 7 ∧ s 8 = t 8
def SgV (s t : Nat → Int32) : Prop := ∀ k, k < 3 → s (106 + 7 * k) = t (106 + 7 * k) ∧ s (14 + 32 * k) = t (14 + 32 * k) ∧ s (15 + 32 * k) = t (15 + 32 * k)
section
variable {s t u r C R : Nat → Int32} {k B : Nat}
theorem CstE.sy (h : CstE s t) : CstE t s := ⟨fun k hk => by obtain ⟨a, b, c, d, e, f, g⟩ := h.1 k hk; exact ⟨a.symm, b.symm, c.symm, d.symm, e.symm, f.symm, g.symm⟩, h.2.1.symm, h.2.2.1.symm, h.2.2.2.symm⟩
theorem CstE.tr (h : CstE s t) (h' : CstE t u) : CstE s u := ⟨fun k hk => by
  obtain ⟨a, b, c, d, e, f, g⟩ := h.1 k hk
  obtain ⟨a', b', c', d', e', f', g'⟩ := h'.1 k hk
  exact ⟨a.trans a', b.trans b', c.trans c', d.trans d', e.trans e', f.trans f', g.trans g'⟩, h.2.1.trans h'.2.1, h.2.2.1.trans h'.2.2.1, h.2.2.2.trans h'.2.2.2⟩
theorem cst_tk (h6 : s 6 = 0) : CstE (tkS s r) s := by
  refine ⟨fun k hk => ?_, tsO (by decide) (fun k hk => ⟨by omega, by omega⟩), tsO (by decide) (fun k hk => ⟨by omega, by omega⟩), tsO (by decide) (fun k hk => ⟨by omega, by omega⟩)⟩
  have t1 := tsT (s := s) (r := r) hk (i := 1) (by decide)
  have t2 := tsT (s := s) (r := r) hk (i := 2) (by decide)
  have t3 := tsT (s := s) (r := r) hk (i := 3) (by decide)
  have t7 := tsT (s := s) (r := r) hk (i := 7) (by decide)
  have r1 := tsR (s := s) (r := r) hk (i := 1) (by decide)
  have r2 := tsR (s := s) (r := r) hk (i := 2) (by decide)
  have r3 := tsR (s := s) (r := r) hk (i := 3) (by decide)
  rw [show 10 + 32 * k + 1 = 11 + 32 * k by omega] at t1
  rw [show 10 + 32 * k + 2 = 12 + 32 * k by omega] at t2
  rw [show 10 + 32 * k + 3 = 13 + 32 * k by omega] at t3
  rw [show 10 + 32 * k + 7 = 17 + 32 * k by omega] at t7
  rw [show 106 + 7 * k + 1 = 107 + 7 * k by omega] at r1
  rw [show 106 + 7 * k + 2 = 108 + 7 * k by omega] at r2
  rw [show 106 + 7 * k + 3 = 109 + 7 * k by omega] at r3
  refine ⟨?_, ?_, ?_, ?_, r1, r2, r3⟩
  · rw [t1]
    show s (10 + 32 * k + 1) = _
    exact congrArg s (by omega)
  · rw [t2]
    have e : mvK s r (s 6) k 2 = s (10 + 32 * k + 2) := by
      show (if mvU (fun i => s (10 + 32 * k + i)) _ = true then tireF (s (10 + 32 * k + 6) + 1) (s (10 + 32 * k + 2)) (s (10 + 32 * k + 1)) (s 6) (s 7) else s (10 + 32 * k + 2)) = _
      unfold tireF
      rw [h6, if_pos (show (0 : Int32) ≤ 0 by decide)]
      split <;> rfl
    rw [e]
    exact congrArg s (by omega)
  · rw [t3]
    show s (10 + 32 * k + 3) = _
    exact congrArg s (by omega)
  · rw [t7]
    show s (10 + 32 * k + 7) = _
    exact congrArg s (by omega)
theorem det_tk (hc : CstE s t) (hs : SgV s t) : SgV (tkS s r) (tkS t r) := by
  have hw : ∀ k, k < 3 → wtc s k = wtc t k := by
    intro k hk
    have a1 : (k + 1) % 3 < 3 := Nat.mod_lt _ (by decide)
    have a2 : (k + 2) % 3 < 3 := Nat.mod_lt _ (by decide)
    obtain ⟨-, -, -, c17, c107, c108, c109⟩ := hc.1 k hk
    obtain ⟨-, -, -, -, -, -, d109⟩ := hc.1 _ a2
    unfold wtc
    rw [(hs k hk).1, (hs _ a1).1, (hs _ a2).1, c17, c107, c108, c109, d109, hc.2.2.2, (hs k hk).2.1]
  intro k hk
  obtain ⟨c11, c12, c13, c17, c107, c108, c109⟩ := hc.1 k hk
  obtain ⟨-, s14, s15⟩ := hs k hk
  have r0 := tsR (s := s) (r := r) hk (i := 0) (by decide)
  have q0 := tsR (s := t) (r := r) hk (i := 0) (by decide)
  have t4 := tsT (s := s) (r := r) hk (i := 4) (by decide)
  have u4 := tsT (s := t) (r := r) hk (i := 4) (by decide)
  have t5 := tsT (s := s) (r := r) hk (i := 5) (by decide)
  have u5 := tsT (s := t) (r := r) hk (i := 5) (by decide)
  rw [show 10 + 32 * k + 4 = 14 + 32 * k by omega] at t4 u4
  rw [show 10 + 32 * k + 5 = 15 + 32 * k by omega] at t5 u5
  refine ⟨?_, ?_, ?_⟩
  · refine r0.trans (Eq.trans ?_ q0.symm)
    exact hw k hk
  · rw [t4, u4]
    show chSi (s (10 + 32 * k + 1)) (s (10 + 32 * k + 2)) (s (10 + 32 * k + 3)) (s (10 + 32 * k + 5)) (s (10 + 32 * k + 4)) (r k * (wtc s k - 200)) = chSi (t (10 + 32 * k + 1)) (t (10 + 32 * k + 2)) (t (10 + 32 * k + 3)) (t (10 + 32 * k + 5)) (t (10 + 32 * k + 4)) (r k * (wtc t k - 200))
    rw [hw k hk, show 10 + 32 * k + 1 = 11 + 32 * k by omega, show 10 + 32 * k + 2 = 12 + 32 * k by omega, show 10 + 32 * k + 3 = 13 + 32 * k by omega, show 10 + 32 * k + 4 = 14 + 32 * k by omega, show 10 + 32 * k + 5 = 15 + 32 * k by omega, c11, c12, c13, s14, s15]
  · rw [t5, u5]
    show chPu (s (10 + 32 * k + 1)) (s (10 + 32 * k + 2)) (s (10 + 32 * k + 3)) (s (10 + 32 * k + 5)) (s (10 + 32 * k + 4)) (r k * (wtc s k - 200)) = chPu (t (10 + 32 * k + 1)) (t (10 + 32 * k + 2)) (t (10 + 32 * k + 3)) (t (10 + 32 * k + 5)) (t (10 + 32 * k + 4)) (r k * (wtc t k - 200))
    rw [hw k hk, show 10 + 32 * k + 1 = 11 + 32 * k by omega, show 10 + 32 * k + 2 = 12 + 32 * k by omega, show 10 + 32 * k + 3 = 13 + 32 * k by omega, show 10 + 32 * k + 4 = 14 + 32 * k by omega, show 10 + 32 * k + 5 = 15 + 32 * k by omega, c11, c12, c13, s14, s15]
theorem SgV.e (h : SgV s t) : SgE s t := by
  intro k hk
  unfold wN aN pN
  rw [(h k hk).1, (h k hk).2.1, (h k hk).2.2]
  exact ⟨rfl, rfl, rfl⟩
theorem SgE.v (W : Wf s) (W' : Wf t) (h : SgE s t) : SgV s t := by
  intro k hk
  obtain ⟨-, -, -, a, b, c⟩ := W.sg hk
  obtain ⟨-, -, -, a', b', c'⟩ := W'.sg hk
  rw [a, b, c, a', b', c', (h k hk).1, (h k hk).2.1, (h k hk).2.2]
  exact ⟨rfl, rfl, rfl⟩
theorem Wf.lp (W : Wf C) : Wf (lpS C) := W.upd (by decide)
theorem lp_cst : ∀ i, CstE (lpD C i) (lpS C)
  | 0 => ⟨fun _ _ => ⟨rfl, rfl, rfl, rfl, rfl, rfl, rfl⟩, rfl, rfl, rfl⟩
  | i + 1 => (cst_tk ((tkD_6 (C := lpS C) i).trans upd_s)).tr (lp_cst i)
theorem lp_step (W : Wf C) {i j : Nat} (h : kyQ C i = kyQ C j) : kyQ C (i + 1) = kyQ C (j + 1) := by
  have wi : ∀ i, Wf (lpD C i) := fun i => W.lp.tkDn i
  have e := SgE.v (wi i) (wi j) ((ky_iff (wi i) (wi j)).mp h)
  exact (ky_iff (wi (i + 1)) (wi (j + 1))).mpr (det_tk ((lp_cst i).tr (lp_cst j).sy) e).e
theorem Rl.lp (H : Rl C R) : Rl (lpS C) R := by
  refine ⟨fun j hj h6 => (upd_n h6).trans (H.1 j hj h6), fun k hk i hi => (upd_n (by omega)).trans (H.2.1 k hk i hi), fun k hk i hi => (upd_n (by omega)).trans (H.2.2.1 k hk i ?_), fun k hk i hi => (upd_n (by omega)).trans (H.2.2.2.1 k hk i hi), fun k hk => ?_⟩
  · have e : lpS C (10 + 32 * k) = C (10 + 32 * k) := upd_n (by omega)
    rw [e] at hi
    exact hi
  · have e9 : lpS C 9 = C 9 := upd_n (by decide)
    have e1 : lpS C (111 + 7 * k) = C (111 + 7 * k) := upd_n (by omega)
    have e2 : lpS C (112 + 7 * k) = C (112 + 7 * k) := upd_n (by omega)
    rw [e9, e1, e2]
    exact H.2.2.2.2 k hk
theorem lp_rel (H : RB B C R) (hB : B ≤ 1000000) {i : Nat} (hi : i ≤ 2000) : Rl (lpD C i) (tkI R (rts R) 0 i) := by
  obtain ⟨H, h6, W, T, hT, e9⟩ := H
  have h := H.lp.tkDn (r := rts (lpS C)) (un := 0) W.lp (T := T) ((upd_n (by decide)).trans e9) upd_s i (by omega)
  have er : ∀ k, k < 3 → rts (lpS C) k = rts R k := fun k hk => (H.lp.rtE W.lp hk).1
  rw [tkI_r er i] at h
  exact h
theorem Rl.sg (H : Rl C R) : sgS C = sgS R := by
  unfold sgS sgK
  rw [H.rmj (k := 0) (by decide) (j := 106 + 7 * 0) (by decide) (by decide), H.rmj (k := 1) (by decide) (j := 106 + 7 * 1) (by decide) (by decide), H.rmj (k := 2) (by decide) (j := 106 + 7 * 2) (by decide) (by decide), H.stj (k := 0) (by decide) (j := 14 + 32 * 0) (by decide) (by decide), H.stj (k := 1) (by decide) (j := 14 + 32 * 1) (by decide) (by decide), H.stj (k := 2) (by decide) (j := 14 + 32 * 2) (by decide) (by decide), H.stj (k := 0) (by decide) (j := 15 + 32 * 0) (by decide) (by decide), H.stj (k := 1) (by decide) (j := 15 + 32 * 1) (by decide) (by decide), H.stj (k := 2) (by decide) (j := 15 + 32 * 2) (by decide) (by decide)]
theorem kp_iff (H : RB B C R) (hB : B ≤ 1000000) {i j : Nat} (hi : i ≤ 2000) (hj : j ≤ 2000) : kpS R i = kpS R j ↔ kyQ C i = kyQ C j := by
  have wi : ∀ i, Wf (lpD C i) := fun i => H.2.2.1.lp.tkDn i
  unfold kpS
  rw [← (lp_rel H hB hi).sg, ← (lp_rel H hB hj).sg, sg_iff (wi i) (wi j)]
  exact (ky_iff (wi i) (wi j)).symm
theorem sn_e (H : RB B C R) (hB : B ≤ 1000000) {i : Nat} (hi : i ≤ 2000) : sgQ C i = snS R i := by
  have h := lp_rel H hB hi
  unfold sgQ snS snO
  rw [Int32.zero_add, h.stj (k := 0) (by decide) (j := 16) (by decide) (by decide), h.stj (k := 1) (by decide) (j := 48) (by decide) (by decide), h.stj (k := 2) (by decide) (j := 80) (by decide) (by decide)]
end
section
variable {q : Nat → Int64} {j M : Nat}
theorem q_per (D : ∀ i c, q i = q c → q (i + 1) = q (c + 1)) (hj : j < M) (h : q j = q M) : ∀ d, q (j + d) = q (j + d + (M - j))
  | 0 => by rw [Nat.add_zero, show j + (M - j) = M by omega]; exact h
  | d + 1 => by
    have e := D _ _ (q_per D hj h d)
    rw [show j + d + (M - j) + 1 = j + (d + 1) + (M - j) by omega] at e
    exact e
theorem q_red (D : ∀ i c, q i = q c → q (i + 1) = q (c + 1)) (hj : j < M) (h : q j = q M) : ∀ n d, d ≤ n → q (j + d) = q (j + d % (M - j)) := by
  intro n
  induction n with
  | zero => intro d hd; rw [show d = 0 by omega, Nat.zero_mod]
  | succ n ih =>
    intro d hd
    by_cases c : d < M - j
    · rw [Nat.mod_eq_of_lt c]
    · have e := q_per D hj h (d - (M - j))
      rw [show j + (d - (M - j)) + (M - j) = j + d by omega] at e
      rw [← e, ih (d - (M - j)) (by omega), Nat.mod_eq_sub_mod (a := d) (b := M - j) (by omega)]
theorem q_inj (hd : ∀ a c, a < c → c < M → ¬ q a = q c) {a c : Nat} (ha : a < M) (hc : c < M) (h : q a = q c) : a = c := by
  by_cases z : a = c
  · exact z
  · by_cases l : a < c
    · exact absurd h (hd a c l hc)
    · exact absurd h.symm (hd c a (by omega) ha)
theorem q_P (D : ∀ i c, q i = q c → q (i + 1) = q (c + 1)) (hj : j < M) (hM : M ≤ 1500) (h : q j = q M) (hd : ∀ a c, a < c → c < M → ¬ q a = q c) {P : Nat} (h1 : 1 ≤ P) (h2 : P ≤ 1500) (hP : q (1500 - P) = q 1500) (hm : ∀ c, 1 ≤ c → c < P → ¬ q (1500 - c) = q 1500) : P = M - j := by
  have a := q_per D hj h (1500 - (M - j) - j)
  rw [show j + (1500 - (M - j) - j) = 1500 - (M - j) by omega, show 1500 - (M - j) + (M - j) = 1500 by omega] at a
  have le : ¬ M - j < P := fun z => hm _ (by omega) z a
  by_cases z : P = M - j
  · exact z
  · exfalso
    have lt : P < M - j := by omega
    have e2 := q_red D hj h _ (1500 - j) (Nat.le_refl _)
    rw [show j + (1500 - j) = 1500 by omega] at e2
    have b2 : (1500 - j) % (M - j) < M - j := Nat.mod_lt _ (by omega)
    by_cases c : j ≤ 1500 - P
    · have e1 := q_red D hj h _ (1500 - P - j) (Nat.le_refl _)
      rw [show j + (1500 - P - j) = 1500 - P by omega] at e1
      have b1 : (1500 - P - j) % (M - j) < M - j := Nat.mod_lt _ (by omega)
      have e := q_inj hd (a := j + (1500 - P - j) % (M - j)) (c := j + (1500 - j) % (M - j)) (by omega) (by omega) (e1.symm.trans (hP.trans e2))
      have e' : (1500 - j) % (M - j) = (1500 - P - j) % (M - j) := by omega
      have w := Nat.sub_mod_eq_zero_of_mod_eq e'
      rw [show 1500 - j - (1500 - P - j) = P by omega, Nat.mod_eq_of_lt lt] at w
      omega
    · have e := q_inj hd (a := 1500 - P) (c := j + (1500 - j) % (M - j)) (by omega) (by omega) (hP.trans e2)
      omega
theorem q_L (hj : j < M) (h : q j = q M) (hd : ∀ a c, a < c → c < M → ¬ q a = q c) {L P : Nat} (hP : P = M - j) (hL : q L = q (L + P)) (hm : ∀ l, l < L → ¬ q l = q (l + P)) : L = j := by
  subst hP
  have le : ¬ j < L := fun z => hm j z (by rw [show j + (M - j) = M by omega]; exact h)
  by_cases z : L = j
  · exact z
  · exact absurd hL (hd L (L + (M - j)) (by omega) (by omega))
end
section
variable {C R : Nat → Int32} {B : Nat} {fo le pe sn x : Int32}
theorem loop_no (H : RB B C R) (hB : B ≤ 1000000) (hr : LoopRes C fo le pe sn) (h : ∀ P, 1 ≤ P → P ≤ 1500 → ¬ kpS R (1500 - P) = kpS R 1500) : aLoop fo le pe sn x = -10000004 := by
  rcases hr with ⟨M, j, hM, hj, e, hd, -⟩ | ⟨-, f0⟩
  · exfalso
    have a := q_per (fun i c => lp_step H.2.2.1 (i := i) (j := c)) hj e (1500 - (M - j) - j)
    rw [show j + (1500 - (M - j) - j) = 1500 - (M - j) by omega, show 1500 - (M - j) + (M - j) = 1500 by omega] at a
    exact h (M - j) (by omega) (by omega) ((kp_iff H hB (by omega) (by omega)).mpr a)
  · unfold aLoop
    rw [if_pos f0]
theorem loop_yes (H : RB B C R) (hB : B ≤ 1000000) (hr : LoopRes C fo le pe sn) {P L : Nat} (h1 : 1 ≤ P) (h2 : P ≤ 1500) (hP : kpS R (1500 - P) = kpS R 1500) (hm : ∀ j, 1 ≤ j → j < P → ¬ kpS R (1500 - j) = kpS R 1500) (hl : L + P ≤ 1500) (hL : kpS R L = kpS R (L + P)) (hm2 : ∀ l, l < L → ¬ kpS R l = kpS R (l + P)) : aLoop fo le pe sn x = if x = 0 then nI L else if x = 1 then nI P else snS R (L + P) - snS R L := by
  have iff : ∀ {i j : Nat}, i ≤ 2000 → j ≤ 2000 → (kpS R i = kpS R j ↔ kyQ C i = kyQ C j) := fun hi hj => kp_iff H hB hi hj
  have hP' := (iff (by omega) (by omega)).mp hP
  rcases hr with ⟨M, j, hM, hj, e, hd, f1, e1, e2, e3⟩ | ⟨hd, -⟩
  · have p := q_P (fun i c => lp_step H.2.2.1 (i := i) (j := c)) hj hM e hd h1 h2 hP' (fun c c1 c2 z => hm c c1 c2 ((iff (by omega) (by omega)).mpr z))
    have l := q_L hj e hd p ((iff (by omega) (by omega)).mp hL) (fun l hl z => hm2 l hl ((iff (by omega) (by omega)).mpr z))
    have lm : L + P = M := by omega
    unfold aLoop
    rw [if_neg (by rw [f1]; decide), e1, e2, e3, ← p, ← l, ← lm, sn_e H hB (by omega), sn_e H hB (by omega)]
  · exact absurd hP' (hd (1500 - P) 1500 (by omega) (by omega))
end
