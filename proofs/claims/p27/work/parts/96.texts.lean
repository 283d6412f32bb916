/-! the text: fault and read -/
section
variable {f f' : Nat → Int32} {n k c p m : Nat}
theorem fp_none : ∀ r i, (∀ j, i ≤ j → j < i + r → canF f j = true) → fpG f r i = none
  | 0, _, _ => rfl
  | r + 1, i, h => by
    unfold fpG
    rw [if_pos (h i (by omega) (by omega))]
    exact fp_none r (i + 1) (fun j h1 h2 => h j (by omega) (by omega))
theorem fp_at {K : Nat} (hK : canF f K = false) : ∀ r i, i ≤ K → K < i + r → (∀ j, i ≤ j → j < K → canF f j = true) → fpG f r i = some K
  | 0, _, _, _, _ => by omega
  | r + 1, i, h1, h2, h => by
    unfold fpG
    by_cases q : i = K
    · subst q
      rw [if_neg (by rw [hK]; decide)]
    · rw [if_pos (h i (by omega) (by omega))]
      exact fp_at hK r (i + 1) (by omega) (by omega) (fun j h1 h2 => h j (by omega) h2)
theorem fp_all : ∀ r i, fpG f r i = none → ∀ j, i ≤ j → j < i + r → canF f j = true
  | 0, _, _, _, _, _ => by omega
  | r + 1, i, h, j, h1, h2 => by
    unfold fpG at h
    by_cases q : canF f i = true
    · rw [if_pos q] at h
      by_cases e : i = j
      · rw [← e]; exact q
      · exact fp_all r (i + 1) h j (by omega) (by omega)
    · rw [if_neg q] at h
      cases h
theorem fp_cong : ∀ r i, (∀ j, i ≤ j → j < i + r → f j = f' j) → fpG f r i = fpG f' r i
  | 0, _, _ => rfl
  | r + 1, i, h => by
    unfold fpG
    have e : canF f i = canF f' i := by unfold canF; rw [h i (by omega) (by omega)]
    rw [e, fp_cong r (i + 1) (fun j h1 h2 => h j (by omega) (by omega))]
theorem place_at {K : Nat} (h1 : K < n) (h2 : K < 32) (h : ∀ j, j < K → canF f j = true) (hK : canF f K = false) : placeF f n = nI K := by
  unfold placeF
  rw [fp_at hK _ 0 (by omega) (by split <;> omega) (fun j _ hj => h j hj)]
theorem place_no (h : ∀ j, j < n → j < 32 → canF f j = true) : placeF f n = if 32 < n then 32 else if n = 0 then -1 else if n % 4 = 3 then -1 else nI n := by
  unfold placeF
  rw [fp_none _ 0 (fun j _ hj => by
    have z : j < if n < 32 then n else 32 := by omega
    split at z
    · exact h j z (by omega)
    · exact h j (by omega) z)]
theorem place_can (h : placeF f n = -1) : ∀ j, j < n → canF f j = true := by
  have hn := place_n h
  intro j hj
  unfold placeF at h
  cases q : fpG f (if n < 32 then n else 32) 0 with
  | none => exact fp_all _ 0 q j (by omega) (by split <;> omega)
  | some K =>
    rw [q] at h
    have b : K < 2 ^ 31 ∨ ¬ K < 2 ^ 31 := by omega
    rcases b with b | b
    · exact absurd h (m1_ne b)
    · exfalso
      have e : fpG f (if n < 32 then n else 32) 0 = none := fp_none _ 0 (fun j _ hj => by
        cases c : canF f j with
        | true => rfl
        | false =>
          exfalso
          have g : ∀ r i, fpG f r i = some K → i ≤ K ∧ K < i + r := by
            intro r
            induction r with
            | zero => intro i z; cases z
            | succ r ih =>
              intro i z
              unfold fpG at z
              split at z
              · have := ih (i + 1) z; omega
              · cases z; omega
          have := g _ _ q
          have l : (if n < 32 then n else 32) ≤ 32 := by split <;> omega
          omega)
      rw [e] at q
      cases q
theorem place_cong (h : ∀ j, j < n → f j = f' j) : placeF f n = placeF f' n := by
  unfold placeF
  rw [fp_cong _ 0 (fun j _ hj => h j (by
    have z : j < if n < 32 then n else 32 := by omega
    split at z <;> omega))]
theorem can0 : canF f (4 * c) = isIn (f (4 * c)) 49 57 := by unfold canF; rw [if_pos (by omega)]
theorem can1 : canF f (4 * c + 1) = isIn (f (4 * c + 1)) 97 102 := by unfold canF; rw [if_neg (by omega), if_neg (by omega)]
theorem can2 : canF f (4 * c + 2) = isIn (f (4 * c + 2)) 97 102 := by unfold canF; rw [if_neg (by omega), if_neg (by omega)]
theorem can3 : canF f (4 * c + 3) = decide (f (4 * c + 3) = 44) := by unfold canF; rw [if_neg (by omega), if_pos (by omega)]
theorem in44 {x : Int32} : isIn x 44 44 = true ↔ x = 44 := by
  rw [isIn_z]
  have e : (44 : Int32).toInt = 44 := rfl
  rw [e]
  exact ⟨fun h => Int32.toInt_inj.mp (by rw [e]; omega), fun h => by rw [h, e]; omega⟩
theorem takB_i {lo hi : Int32} : takB f n p lo hi = true ↔ p < n ∧ isIn (f p) lo hi = true := by
  unfold takB
  rw [Bool.and_eq_true, decide_eq_true_eq]
theorem takB_n {lo hi : Int32} (h : ¬ takB f n p lo hi = true) (hp : p < n) : isIn (f p) lo hi = false := by
  cases q : isIn (f p) lo hi with
  | false => rfl
  | true => exact absurd (takB_i.mpr ⟨hp, q⟩) h
theorem prt_res : (prtN f n (4 * c) = 3 ∧ 4 * c + 2 < n ∧ ∀ i, 4 * c ≤ i → i < 4 * c + 3 → canF f i = true) ∨ (prtN f n (4 * c) ≤ 2 ∧ (∀ i, 4 * c ≤ i → i < 4 * c + prtN f n (4 * c) → i < n ∧ canF f i = true) ∧ (4 * c + prtN f n (4 * c) < n → canF f (4 * c + prtN f n (4 * c)) = false)) := by
  unfold prtN
  by_cases q0 : takB f n (4 * c) 49 57 = true
  · rw [if_pos q0]
    have a0 := takB_i.mp q0
    rw [← can0] at a0
    by_cases q1 : takB f n (4 * c + 1) 97 102 = true
    · rw [if_pos q1]
      have a1 := takB_i.mp q1
      rw [← can1] at a1
      by_cases q2 : takB f n (4 * c + 2) 97 102 = true
      · rw [if_pos q2]
        have a2 := takB_i.mp q2
        rw [← can2] at a2
        refine Or.inl ⟨rfl, a2.1, fun i h1 h2 => ?_⟩
        have : i = 4 * c ∨ i = 4 * c + 1 ∨ i = 4 * c + 2 := by omega
        rcases this with rfl | rfl | rfl
        · exact a0.2
        · exact a1.2
        · exact a2.2
      · rw [if_neg q2]
        refine Or.inr ⟨by omega, fun i h1 h2 => ?_, fun h => by rw [can2]; exact takB_n q2 h⟩
        have : i = 4 * c ∨ i = 4 * c + 1 := by omega
        rcases this with rfl | rfl
        · exact a0
        · exact a1
    · rw [if_neg q1]
      refine Or.inr ⟨by omega, fun i h1 h2 => ?_, fun h => by rw [can1]; exact takB_n q1 h⟩
      have : i = 4 * c := by omega
      subst this
      exact a0
  · rw [if_neg q0]
    exact Or.inr ⟨by omega, fun i h1 h2 => by omega, fun h => by rw [Nat.add_zero, can0]; exact takB_n q0 h⟩
def RdQ (f : Nat → Int32) (n : Nat) (a : Int32) (p : Nat) (re : Int32) : Prop := (a = nI ((n + 1) / 4) ∧ placeF f n = -1 ∧ n ≤ 32) ∨ (a = -1 ∧ placeF f n = nI p ∧ p ≤ 60 ∧ re = if p = 32 then (if n ≤ 32 then 1 else 2) else 1)
def RdR (f : Nat → Int32) (n : Nat) (x : Int32 × Nat × Int32) : Prop := RdQ f n x.1 x.2.1 x.2.2
theorem rd_res (hn : n ≤ 60) (h0 : 0 < n) : ∀ k c, k + c = 9 → c ≤ 8 → 4 * c ≤ n → (∀ i, i < 4 * c → canF f i = true) → RdR f n (rdG f n k (4 * c) c)
  | 0, c, h1, h2, _, _ => by omega
  | k + 1, c, h1, h2, h3, h => by
    unfold rdG
    by_cases a : c = 8 ∧ 4 * c < n
    · rw [if_pos a]
      obtain ⟨rfl, a⟩ := a
      show RdQ f n (-1) (4 * 8) 2
      refine Or.inr ⟨rfl, ?_, by omega, ?_⟩
      · rw [place_no (fun j _ hj => h j (by omega)), if_pos a]
        rfl
      · show (2 : Int32) = if 4 * 8 = 32 then (if n ≤ 32 then 1 else 2) else 1
        rw [if_pos rfl, if_neg (by omega)]
    · rw [if_neg a]
      rcases prt_res (f := f) (n := n) (c := c) with ⟨p3, pn, pc⟩ | ⟨p2, pc, pf⟩
      · rw [if_pos p3]
        have hc : c < 8 := by omega
        by_cases t : takB f n (4 * c + 3) 44 44 = true
        · rw [if_pos t]
          have t' := takB_i.mp t
          exact rd_res hn h0 k (c + 1) (by omega) (by omega) (by omega) (fun i hi => by
            by_cases e : i < 4 * c
            · exact h i e
            · by_cases e2 : i = 4 * c + 3
              · subst e2
                rw [can3]
                exact decide_eq_true (in44.mp t'.2)
              · exact pc i (by omega) (by omega))
        · rw [if_neg t]
          by_cases q : 4 * c + 3 < n
          · rw [if_pos q]
            show RdQ f n (-1) (4 * c + 3) 1
            refine Or.inr ⟨rfl, place_at q (by omega) (fun j hj => ?_) ?_, by omega, ?_⟩
            · by_cases e : j < 4 * c
              · exact h j e
              · exact pc j (by omega) (by omega)
            · rw [can3]
              exact decide_eq_false (fun z => t (takB_i.mpr ⟨q, in44.mpr z⟩))
            · show (1 : Int32) = if 4 * c + 3 = 32 then (if n ≤ 32 then 1 else 2) else 1
              rw [if_neg (by omega)]
          · rw [if_neg q]
            refine Or.inl ⟨?_, ?_, by omega⟩
            · show nI (c + 1) = nI ((n + 1) / 4)
              exact congrArg nI (by omega)
            · rw [place_no (fun j hj _ => ?_), if_neg (by omega), if_neg (by omega), if_pos (by omega)]
              by_cases e : j < 4 * c
              · exact h j e
              · exact pc j (by omega) (by omega)
      · rw [if_neg (by omega)]
        have all : ∀ j, j < 4 * c + prtN f n (4 * c) → canF f j = true := fun j hj => by
          by_cases e : j < 4 * c
          · exact h j e
          · exact (pc j (by omega) hj).2
        by_cases c8 : c = 8
        · subst c8
          have m0 : prtN f n (4 * 8) = 0 := by
            by_cases e : prtN f n (4 * 8) = 0
            · exact e
            · have := (pc (4 * 8) (by omega) (by omega)).1
              omega
          rw [m0]
          show RdQ f n (-1) (4 * 8 + 0) 1
          refine Or.inr ⟨rfl, ?_, by omega, ?_⟩
          · rw [place_no (fun j _ hj => h j (by omega)), if_neg (by omega), if_neg (by omega), if_neg (by omega)]
            exact congrArg nI (by omega)
          · show (1 : Int32) = if 4 * 8 + 0 = 32 then (if n ≤ 32 then 1 else 2) else 1
            rw [if_pos rfl, if_pos (by omega)]
        · show RdQ f n (-1) (4 * c + prtN f n (4 * c)) 1
          refine Or.inr ⟨rfl, ?_, by omega, ?_⟩
          · show placeF f n = nI (4 * c + prtN f n (4 * c))
            by_cases q : 4 * c + prtN f n (4 * c) < n
            · exact place_at q (by omega) all (pf q)
            · have en : n = 4 * c + prtN f n (4 * c) := by
                by_cases e : prtN f n (4 * c) = 0
                · omega
                · have := (pc (4 * c + prtN f n (4 * c) - 1) (by omega) (by omega)).1
                  omega
              rw [place_no (fun j hj _ => all j (by omega)), if_neg (by omega), if_neg (by omega), if_neg (by omega), ← en]
          · show (1 : Int32) = if 4 * c + prtN f n (4 * c) = 32 then (if n ≤ 32 then 1 else 2) else 1
            rw [if_neg (by omega)]
theorem rdF_res (hn : n ≤ 60) : RdR f n (rdF f n 0) := by
  unfold rdF
  by_cases q : n = 0
  · rw [if_pos q]
    subst q
    exact Or.inl ⟨rfl, rfl, by omega⟩
  · rw [if_neg q]
    exact rd_res hn (by omega) 9 0 (by omega) (by omega) (by omega) (fun i hi => by omega)
theorem ans_fault (hn : n ≤ 60) (h : ∀ j, j < n → f j = f' j) (x : Int32) : aFaultC f n x = aFault f' n x := by
  unfold aFaultC aFault
  by_cases q : isIn x 0 1 = true
  · rw [if_pos q, if_pos q, place_cong h]
    rcases rdF_res (f := f') hn with ⟨r1, r2, r3⟩ | ⟨r1, r2, r3, r4⟩
    · rw [if_pos r2, if_neg (by rw [r1]; exact nI_pos (by omega))]
    · have lt : (rdF f' n 0).1 < 0 := by rw [r1]; decide
      rw [if_neg (by rw [r2]; exact m1_ne (by omega)), if_pos lt, r2, r4]
      by_cases x0 : x = 0
      · rw [if_pos x0, if_pos x0]
      · rw [if_neg x0, if_neg x0]
        by_cases e : (rdF f' n 0).2.1 = 32
        · rw [if_pos (by rw [e]; rfl), if_pos e]
        · rw [if_neg (show ¬ nI (rdF f' n 0).2.1 = (32 : Int32) from fun z => e ((nI_eq (b := 32) (by omega) (by decide)).mp z)), if_neg e]
  · rw [if_neg q, if_neg q]
end

