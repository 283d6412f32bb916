/-! what holds between two calls of the law; an act on both sides -/
def CI (ca : Nat → ClassId) (h : PH) (g : Nat → Nat) (lk : Int32) (s : Nat → Int32) (oo ss : Nat) (S : Nat → Nat → Int32) (n : Nat) (f : Nat → Int32) (fo le pe sn : Int32) : Prop := CN ca h (g 0) (bN g) (g 23) (g 24) (BN g) (g 113) (g 115) (g 141) lk s oo ss S ∧ XAt ca h (g 113) (g 114) n f ∧ LF ca h (g 115) (tbN g) (g 138) (g 139) (g 140) fo le pe sn ∧ SFs ca h (g 141) (g 142) (g 143) (g 144) (g 145)
def qN (q : Nat → Nat) : Nat → Nat := fun i => q (1 + i)
def Ap (g q : Nat → Nat) : Prop := Inj g ∧ Inj q ∧ ∀ i j, i < 146 → j < 11 → ¬ g i = q j
def LWx (ca : Nat → ClassId) (h : PH) (g q : Nat → Nat) (B : Nat) (lk : Int32) (s : Nat → Int32) (oo ss : Nat) (S : Nat → Nat → Int32) (n : Nat) (f : Nat → Int32) (fo le pe sn : Int32) (R p f' : Nat → Int32) : Prop := CI ca h g lk s oo ss S n f fo le pe sn ∧ RAt ca h (q 0) (qN q) R p ss f' n ∧ (lk = 0 ∨ (lk = 1 ∧ LoopRes s fo le pe sn)) ∧ RB B s R ∧ HR B S oo ss p ∧ ∀ j, j < n → f j = f' j
def LW (ca : Nat → ClassId) (h : PH) (g q : Nat → Nat) (B : Nat) : Prop := ∃ lk s oo ss S n f fo le pe sn R p f', LWx ca h g q B lk s oo ss S n f fo le pe sn R p f'
section
variable {ca : Nat → ClassId} {h h' : PH} {g q : Nat → Nat} {lk : Int32} {s f : Nat → Int32} {oo ss n : Nat} {S : Nat → Nat → Int32} {fo le pe sn : Int32} {R p f' : Nat → Int32} {B B' : Nat}
theorem CI_k (hC : CI ca h g lk s oo ss S n f fo le pe sn) (e : ∀ i, i < 146 → h' (g i) = h (g i)) : CI ca h' g lk s oo ss S n f fo le pe sn := ⟨CN_k hC.1 (fun i hi => e i (by omega)), XAt_k hC.2.1 (e 113 (by decide)) (e 114 (by decide)), LF_k hC.2.2.1 (fun i h1 h2 => e i (by omega)), SFs_k hC.2.2.2 (fun i h1 h2 => e i (by omega))⟩
theorem SmC_g (hg : Inj g) (hm : SmC (g 0) (bN g) (g 23) (BN g) h h') {i : Nat} (hi : i = 24 ∨ 113 ≤ i) : h' (g i) = h (g i) := hm _ (gne hg (by omega)) (fun k hk => gne hg (by omega)) (gne hg (by omega)) (fun j hj k hk => gne hg (by omega))
theorem SmC_q (A : Ap g q) (hm : SmC (g 0) (bN g) (g 23) (BN g) h h') {i : Nat} (hi : i < 11) : h' (q i) = h (q i) := hm _ (fun z => A.2.2 0 i (by decide) hi z.symm) (fun k hk z => A.2.2 (1 + k) i (by omega) hi z.symm) (fun z => A.2.2 23 i (by decide) hi z.symm) (fun j hj k hk z => A.2.2 (25 + 22 * j + k) i (by omega) hi z.symm)
theorem SmR_g (A : Ap g q) (hm : SmR (q 0) (qN q) h h') {i : Nat} (hi : i < 146) : h' (g i) = h (g i) := hm _ (A.2.2 i 0 hi (by decide)) (fun k hk => A.2.2 i (1 + k) hi (by omega))
theorem act_core (A : Ap g q) (H : LWx ca h g q B lk s oo ss S n f fo le pe sn R p f') (hB : B ≤ B') {v : Bool} {x x' : Int32} {F F' : Nat → Int32} (K : ActOk B' v x F x' F') {post : Option Value → PH → Prop} (hp : ∀ h1, (∀ post2 : Option Value → PH → Prop, (∀ h2, LW ca h2 g q B' → post2 (some (.int x)) h2) → ss ≤ 4 ∧ RAt ca h1 (q 0) (qN q) R p ss f' n ∧ actR ca h1 (q 0) (qN q) R p ss f' n post2 x' F') → post (some (.int x)) h1) : actC ca h (g 0) (bN g) (g 23) (g 24) (BN g) (g 113) (g 115) (g 141) s oo ss S post v x F := by
  obtain ⟨hC, hR, hl, hb, hh, ht⟩ := H
  obtain ⟨kx, k0, k1⟩ := K
  have h4 : ss ≤ 4 := hC.1.2.2.2.2.2.2
  have o4 : oo < 4 := hC.1.2.2.2.2.2.1
  refine ⟨fun hv => hp h (fun post2 h2 => ⟨h4, hR, fun hx h3 s' p' es ep hr hm => ?_, fun hx => absurd (k0 hv) hx⟩), fun hv h1 hN hm => hp h1 (fun post2 h2 => ⟨h4, RAt_k hR (fun i hi => SmC_q A hm hi), fun hx => absurd hx (k1 hv).1, fun hx h3 s' p' es ep hr hm' => ?_⟩)⟩
  · rw [← kx]
    refine h2 h3 ⟨lk, s, oo, ss, S, n, f, fo, le, pe, sn, s', p', f', CI_k hC (fun i hi => SmR_g A hm hi), hr, hl, ?_, ?_, ht⟩
    · exact (hb.mono hB).cong (fun j hj => (es j hj).symm)
    · exact (hh.mono hB).cong h4 (fun j hj => (ep j hj).symm)
  · rw [← kx]
    have hC1 : CI ca h1 g 0 F (hiO oo ss) (hiZ ss) (hiS oo ss S s) n f fo le pe sn := ⟨hN, XAt_k hC.2.1 (SmC_g A.1 hm (by omega)) (SmC_g A.1 hm (by omega)), LF_k hC.2.2.1 (fun i h1 h2 => SmC_g A.1 hm (by omega)), SFs_k hC.2.2.2 (fun i h1 h2 => SmC_g A.1 hm (by omega))⟩
    rw [pastT_hi h4] at hr
    refine h2 h3 ⟨0, F, hiO oo ss, hiZ ss, hiS oo ss S s, n, f, fo, le, pe, sn, s', p', f', CI_k hC1 (fun i hi => SmR_g A hm' hi), hr, Or.inl rfl, ?_, ?_, ht⟩
    · exact (k1 hv).2.cong (fun j hj => (es j hj).symm)
    · exact ((hh.mono hB).take h4 o4 (hb.mono hB)).cong (hiZ_le h4) (fun j hj => (ep j hj).symm)
end
