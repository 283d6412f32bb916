/-! the class's calls over its picture -/
def Nx (v : Bool) (s F : Nat → Int32) (ss : Nat) (T s' : Nat → Int32) (ss' : Nat) (T' : Nat → Int32) : Prop := (v = false ∧ s' = s ∧ ss' = ss ∧ T' = T) ∨ (v = true ∧ s' = F ∧ ss' = hiZ ss ∧ T' = s)
def Nw (s : Nat → Int32) (ss : Nat) (T s' : Nat → Int32) (ss' : Nat) (T' : Nat → Int32) : Prop := (s' = s ∧ ss' = ss ∧ T' = T) ∨ (ss' = hiZ ss ∧ T' = s)
theorem Nx.nw {v : Bool} {s F : Nat → Int32} {ss : Nat} {T s' : Nat → Int32} {ss' : Nat} {T' : Nat → Int32} (h : Nx v s F ss T s' ss' T') : Nw s ss T s' ss' T' := by
  rcases h with ⟨-, h⟩ | ⟨-, -, h⟩
  · exact Or.inl h
  · exact Or.inr h
section
variable {ca : Nat → ClassId} {h : PH} {g : Nat → Nat} {B : Nat} {s : Nat → Int32} {ss : Nat} {T : Nat → Int32} {n : Nat} {f : Nat → Int32} {post : Option Value → PH → Prop}
theorem LC.str (H : LC ca h g B s ss T n f) (x w : Int32) (hp : post (some (.int (aStripOf s x w))) h) : sp_X7_stripOf ca [.ref (g 0), .int x, .int w] h post := by
  obtain ⟨lk, oo, S, fo, le, pe, sn, H⟩ := H
  have W := H.2.2.2.1.wf
  exact ⟨g 0, bN g, g 23, g 24, BN g, g 113, g 115, g 141, lk, s, oo, ss, S, x, w, rfl, H.2.1.1, W.wfS, W.boS, hp⟩
theorem LC.prt (H : LC ca h g B s ss T n f) (x i w : Int32) (hp : post (some (.int (aPartOf s x i w))) h) : sp_X7_partOf ca [.ref (g 0), .int x, .int i, .int w] h post := by
  obtain ⟨lk, oo, S, fo, le, pe, sn, H⟩ := H
  have W := H.2.2.2.1.wf
  exact ⟨g 0, bN g, g 23, g 24, BN g, g 113, g 115, g 141, lk, s, oo, ss, S, x, i, w, rfl, H.2.1.1, W.wfS, hp⟩
theorem LC.rom (H : LC ca h g B s ss T n f) (x w : Int32) (hp : post (some (.int (aRoomOf s x w))) h) : sp_X7_roomOf ca [.ref (g 0), .int x, .int w] h post := by
  obtain ⟨lk, oo, S, fo, le, pe, sn, H⟩ := H
  have W := H.2.2.2.1.wf
  exact ⟨g 0, bN g, g 23, g 24, BN g, g 113, g 115, g 141, lk, s, oo, ss, S, x, w, rfl, H.2.1.1, W.boS, hp⟩
theorem LC.cnt (H : LC ca h g B s ss T n f) (w : Int32) (hp : post (some (.int (aCount s ss n w))) h) : sp_X7_count ca [.ref (g 0), .int w] h post := by
  obtain ⟨lk, oo, S, fo, le, pe, sn, H⟩ := H
  exact ⟨g 0, bN g, g 23, g 24, BN g, g 113, g 115, g 141, lk, s, oo, ss, S, g 114, n, f, w, rfl, H.2.1.1, H.2.1.2.1, hp⟩
theorem LC.bnd (H : LC ca h g B s ss T n f) (x w : Int32) (hp : post (some (.int (aBend s x w))) h) : sp_X7_bend ca [.ref (g 0), .int x, .int w] h post := by
  obtain ⟨lk, oo, S, fo, le, pe, sn, H⟩ := H
  have W := H.2.2.2.1.wf
  exact ⟨g 0, bN g, g 23, g 24, BN g, g 113, g 115, g 141, lk, s, oo, ss, S, x, w, rfl, H.2.1.1, W.wfS, hp⟩
theorem LC.trp (H : LC ca h g B s ss T n f) (x w : Int32) (hp : post (some (.int (aTripC s x w))) h) : sp_X7_tripsAt ca [.ref (g 0), .int x, .int w] h post := by
  obtain ⟨lk, oo, S, fo, le, pe, sn, H⟩ := H
  have W := H.2.2.2.1.wf
  exact ⟨g 0, bN g, g 23, g 24, BN g, g 113, g 115, g 141, lk, s, oo, ss, S, x, w, rfl, H.2.1.1, W.wfS, hp⟩
theorem LC.flt (H : LC ca h g B s ss T n f) (x : Int32) (hp : post (some (.int (aFaultC f n x))) h) : sp_X7_fault ca [.ref (g 0), .int x] h post := by
  obtain ⟨lk, oo, S, fo, le, pe, sn, H⟩ := H
  exact ⟨g 0, bN g 0, g 23, g 113, _, g 114, n, f, x, rfl, H.2.1.1.1, H.2.1.2.1, hp⟩
theorem LCx.act {lk : Int32} {oo : Nat} {S : Nat → Nat → Int32} {fo le pe sn : Int32} {B' : Nat} (H : LCx ca h g B s ss T n f lk oo S fo le pe sn) (hB : B ≤ B') {v : Bool} {x : Int32} {F : Nat → Int32} (hI : v = true → Iv B' F) (hp : ∀ h1 s' ss' T', LC ca h1 g B' s' ss' T' n f → Nx v s F ss T s' ss' T' → post (some (.int x)) h1) : actC ca h (g 0) (bN g) (g 23) (g 24) (BN g) (g 113) (g 115) (g 141) s oo ss S post v x F :=
  act7 H hB hI (fun hv => hp h s ss T (LC.mono hB ⟨lk, oo, S, fo, le, pe, sn, H⟩) (Or.inl ⟨hv, rfl, rfl, rfl⟩)) (fun hv h1 H1 => hp h1 _ _ _ H1 (Or.inr ⟨hv, rfl, rfl, rfl⟩))
theorem LC.metal (H : LC ca h g B s ss T n f) (x y : Int32) (hp : ∀ h1 s' ss' T', LC ca h1 g B s' ss' T' n f → Nx (vMetal x y) s (upd s x.toNatClampNeg y) ss T s' ss' T' → post (some (.int (aMetal s x y))) h1) : sp_X7_metal ca [.ref (g 0), .int x, .int y] h post := by
  obtain ⟨lk, oo, S, fo, le, pe, sn, H⟩ := H
  have I := H.2.2.2.1
  exact ⟨g 0, bN g, g 23, g 24, BN g, g 113, g 115, g 141, lk, s, oo, ss, S, x, y, rfl, DJ_g H.1, H.2.1.1, I.wf.boS, H.act (Nat.le_refl _) (I.metal x y) hp⟩
theorem LC.outside (H : LC ca h g B s ss T n f) (x : Int32) (hp : ∀ h1 s' ss' T', LC ca h1 g B s' ss' T' n f → Nx (isIn x (-500) 1500) s (upd s 8 x) ss T s' ss' T' → post (some (.int (aOutside s x))) h1) : sp_X7_outside ca [.ref (g 0), .int x] h post := by
  obtain ⟨lk, oo, S, fo, le, pe, sn, H⟩ := H
  have I := H.2.2.2.1
  exact ⟨g 0, bN g, g 23, g 24, BN g, g 113, g 115, g 141, lk, s, oo, ss, S, x, rfl, DJ_g H.1, H.2.1.1, I.wf.boS, H.act (Nat.le_refl _) (I.outside x) hp⟩
theorem LC.warm (H : LC ca h g B s ss T n f) (x y : Int32) (hp : ∀ h1 s' ss' T', LC ca h1 g B s' ss' T' n f → Nx (vWarm x y) s (upd s (106 + 7 * x.toNatClampNeg) y) ss T s' ss' T' → post (some (.int (aWarm s x y))) h1) : sp_X7_warm ca [.ref (g 0), .int x, .int y] h post := by
  obtain ⟨lk, oo, S, fo, le, pe, sn, H⟩ := H
  have I := H.2.2.2.1
  exact ⟨g 0, bN g, g 23, g 24, BN g, g 113, g 115, g 141, lk, s, oo, ss, S, x, y, rfl, DJ_g H.1, H.2.1.1, I.wf.boS, H.act (Nat.le_refl _) (I.warm x y) hp⟩
theorem LC.set (H : LC ca h g B s ss T n f) (x y : Int32) (hp : ∀ h1 s' ss' T', LC ca h1 g B s' ss' T' n f → Nx (isSet x y) s (upd s (6 + x.toNatClampNeg) y) ss T s' ss' T' → post (some (.int (aSet s x y))) h1) : sp_X7_set ca [.ref (g 0), .int x, .int y] h post := by
  obtain ⟨lk, oo, S, fo, le, pe, sn, H⟩ := H
  have I := H.2.2.2.1
  exact ⟨g 0, bN g, g 23, g 24, BN g, g 113, g 115, g 141, lk, s, oo, ss, S, x, y, rfl, DJ_g H.1, H.2.1.1, I.wf.boS, H.act (Nat.le_refl _) (I.set x y) hp⟩
theorem LC.heat (H : LC ca h g B s ss T n f) (x y z : Int32) (hp : ∀ h1 s' ss' T', LC ca h1 g B s' ss' T' n f → Nx (vHeat x y z) s (fHeat s x y z) ss T s' ss' T' → post (some (.int (aHeat s x y z))) h1) : sp_X7_heat ca [.ref (g 0), .int x, .int y, .int z] h post := by
  obtain ⟨lk, oo, S, fo, le, pe, sn, H⟩ := H
  have I := H.2.2.2.1
  exact ⟨g 0, bN g, g 23, g 24, BN g, g 113, g 115, g 141, lk, s, oo, ss, S, x, y, z, rfl, DJ_g H.1, H.2.1.1, I.wf.boS, H.act (Nat.le_refl _) (I.heat x y z) hp⟩
theorem LC.contact (H : LC ca h g B s ss T n f) (x y : Int32) (hp : ∀ h1 s' ss' T', LC ca h1 g B s' ss' T' n f → Nx (vContact x y) s (upd s (10 + 32 * x.toNatClampNeg + 7) y) ss T s' ss' T' → post (some (.int (aContact s x y))) h1) : sp_X7_contact ca [.ref (g 0), .int x, .int y] h post := by
  obtain ⟨lk, oo, S, fo, le, pe, sn, H⟩ := H
  have I := H.2.2.2.1
  exact ⟨g 0, bN g, g 23, g 24, BN g, g 113, g 115, g 141, lk, s, oo, ss, S, x, y, rfl, DJ_g H.1, H.2.1.1, I.wf.boS, H.act (Nat.le_refl _) (I.contact x y) hp⟩
theorem LC.opening (H : LC ca h g B s ss T n f) (x y : Int32) (hp : ∀ h1 s' ss' T', LC ca h1 g B s' ss' T' n f → Nx (vContact x y) s (fOpening s x y) ss T s' ss' T' → post (some (.int (aOpening s x y))) h1) : sp_X7_opening ca [.ref (g 0), .int x, .int y] h post := by
  obtain ⟨lk, oo, S, fo, le, pe, sn, H⟩ := H
  have I := H.2.2.2.1
  exact ⟨g 0, bN g, g 23, g 24, BN g, g 113, g 115, g 141, lk, s, oo, ss, S, x, y, rfl, DJ_g H.1, H.2.1.1, I.wf.boS, H.act (Nat.le_refl _) (I.opening x y) hp⟩
theorem LC.part (H : LC ca h g B s ss T n f) (x y z w : Int32) (hp : ∀ h1 s' ss' T', LC ca h1 g B s' ss' T' n f → Nx (vPart s x y z w) s (fPart s x.toNatClampNeg (nPt s x) y z w) ss T s' ss' T' → post (some (.int (aPart s x y z w))) h1) : sp_X7_part ca [.ref (g 0), .int x, .int y, .int z, .int w] h post := by
  obtain ⟨lk, oo, S, fo, le, pe, sn, H⟩ := H
  have I := H.2.2.2.1
  exact ⟨g 0, bN g, g 23, g 24, BN g, g 113, g 115, g 141, lk, s, oo, ss, S, x, y, z, w, rfl, DJ_g H.1, H.2.1.1, I.wf.boS, I.wf.wfS, H.act (Nat.le_refl _) (I.part x y z w) hp⟩
theorem LC.cut (H : LC ca h g B s ss T n f) (x y : Int32) (hp : ∀ h1 s' ss' T', LC ca h1 g B s' ss' T' n f → Nx (vCut s x y) s (upd s (10 + 32 * x.toNatClampNeg) (nI (nPt s x - y.toNatClampNeg))) ss T s' ss' T' → post (some (.int (aCut s x y))) h1) : sp_X7_cut ca [.ref (g 0), .int x, .int y] h post := by
  obtain ⟨lk, oo, S, fo, le, pe, sn, H⟩ := H
  have I := H.2.2.2.1
  exact ⟨g 0, bN g, g 23, g 24, BN g, g 113, g 115, g 141, lk, s, oo, ss, S, x, y, rfl, DJ_g H.1, H.2.1.1, I.wf.boS, I.wf.wfS, H.act (Nat.le_refl _) (I.cut x y) hp⟩
theorem LC.bounds (H : LC ca h g B s ss T n f) (x y z w : Int32) (hp : ∀ h1 s' ss' T', LC ca h1 g B s' ss' T' n f → Nx (vBounds x y z w) s (bndS s x.toNatClampNeg y z w) ss T s' ss' T' → post (some (.int (aBounds s x y z w))) h1) : sp_X7_bounds ca [.ref (g 0), .int x, .int y, .int z, .int w] h post := by
  obtain ⟨lk, oo, S, fo, le, pe, sn, H⟩ := H
  have I := H.2.2.2.1
  exact ⟨g 0, bN g, g 23, g 24, BN g, g 113, g 115, g 141, lk, s, oo, ss, S, x, y, z, w, rfl, DJ_g H.1, H.2.1.1, I.wf.boS, I.wf.wfS, H.act (Nat.le_refl _) (I.bounds x y z w) hp⟩
theorem LC.tick (H : LC ca h g B s ss T n f) (hB : B ≤ 1000000) (x : Int32) (hp : ∀ h1 s' ss' T', LC ca h1 g (B + 200) s' ss' T' n f → Nx (isIn x 1 200) s (tkD s (rts s) x.toNatClampNeg) ss T s' ss' T' → post (some (.int (aTickC s x))) h1) : sp_X7_tick ca [.ref (g 0), .int x] h post := by
  obtain ⟨lk, oo, S, fo, le, pe, sn, H⟩ := H
  have I := H.2.2.2.1
  exact ⟨g 0, bN g, g 23, g 24, BN g, g 113, g 115, g 141, lk, s, oo, ss, S, x, rfl, DJ_g H.1, H.2.1.1, I.wf.boS, I.wf.wfS, H.act (Nat.le_add_right _ _) (I.tick hB x) hp⟩
theorem fpG_b {f : Nat → Int32} : ∀ r i j, fpG f r i = some j → i ≤ j ∧ j < i + r
  | 0, i, j, h => by
    unfold fpG at h
    cases h
  | r + 1, i, j, h => by
    unfold fpG at h
    split at h
    · have z := fpG_b r (i + 1) j h
      omega
    · injection h with h
      omega
theorem m1_nI {p : Nat} (hp : p < 2 ^ 31) : ¬ nI p = -1 := fun z => by
  have e := congrArg Int32.toInt z
  rw [nI_toInt hp] at e
  have c : (-1 : Int32).toInt = -1 := rfl
  omega
/-- what the place of a fault is: none, or in the text or at its end -/
theorem place_c {f : Nat → Int32} {n : Nat} (hn : n ≤ 60) : (placeF f n = -1 ∧ (n = 0 ∨ n % 4 = 3) ∧ n ≤ 32) ∨ ∃ p, p ≤ n ∧ placeF f n = nI p := by
  unfold placeF
  cases q : fpG f (if n < 32 then n else 32) 0 with
  | some i =>
    have z := fpG_b _ _ _ q
    refine Or.inr ⟨i, ?_, rfl⟩
    split at z <;> omega
  | none =>
    by_cases q1 : 32 < n
    · exact Or.inr ⟨32, by omega, if_pos q1⟩
    · by_cases q2 : n = 0
      · exact Or.inl ⟨by show (if 32 < n then (32 : Int32) else _) = _; rw [if_neg q1, if_pos q2], Or.inl q2, by omega⟩
      · by_cases q3 : n % 4 = 3
        · exact Or.inl ⟨by show (if 32 < n then (32 : Int32) else _) = _; rw [if_neg q1, if_neg q2, if_pos q3], Or.inr q3, by omega⟩
        · exact Or.inr ⟨n, Nat.le_refl _, by show (if 32 < n then (32 : Int32) else _) = _; rw [if_neg q1, if_neg q2, if_neg q3]⟩
theorem place8 {f : Nat → Int32} {n : Nat} (hn : n ≤ 60) {x : Int32} (hv : vRead f n x = true) : (n + 1) / 4 ≤ 8 := by
  unfold vRead at hv
  rw [Bool.and_eq_true, decide_eq_true_eq] at hv
  rcases place_c (f := f) hn with ⟨-, -, z⟩ | ⟨p, hp, e⟩
  · omega
  · exact absurd (e.symm.trans hv.2) (m1_nI (by omega))
theorem LC.read (H : LC ca h g B s ss T n f) (x : Int32) (hp : ∀ h1 s' ss' T', LC ca h1 g B s' ss' T' n f → Nx (vRead f n x) s (rdC s f x.toNatClampNeg ((n + 1) / 4)) ss T s' ss' T' → post (some (.int (aReadC f n x))) h1) : sp_X7_read ca [.ref (g 0), .int x] h post := by
  obtain ⟨lk, oo, S, fo, le, pe, sn, H⟩ := H
  have I := H.2.2.2.1
  have hX := H.2.1.2.1
  exact ⟨g 0, bN g, g 23, g 24, BN g, g 113, g 115, g 141, lk, s, oo, ss, S, x, g 114, n, f, rfl, DJ_g H.1, H.2.1.1, I.wf.boS, hX, fun h' hm => XAt_k hX (SmC_g H.1 hm (by omega)) (SmC_g H.1 hm (by omega)), H.act (Nat.le_refl _) (fun hv => I.read hX.2.2 x hv (place8 hX.2.2 hv)) hp⟩
theorem LC.undo (H : LC ca h g B s ss T n f) (h0 : ss = 0 → post (some (.int (-10000002))) h) (h1 : ∀ u, ss = u + 1 → ∀ h1 T', LC ca h1 g B T u T' n f → post (some (.int (nI u))) h1) : sp_X7_undo ca [.ref (g 0)] h post := by
  obtain ⟨lk, oo, S, fo, le, pe, sn, A, hC, hl, hb, hh, ht⟩ := H
  refine ⟨g 0, bN g, g 23, g 24, BN g, g 113, g 115, g 141, lk, s, oo, ss, S, rfl, DJ_g A, hC.1, h0, fun u hu => ?_⟩
  subst hu
  have I := hh u (by omega)
  have eT : S ((oo + u) % 4) = T := ht (by omega)
  refine ⟨I.wf.boS, fun h2 hN hm => ?_⟩
  rw [eT] at hN I
  refine h1 u rfl h2 (S ((oo + (u - 1)) % 4)) ⟨0, oo, S, fo, le, pe, sn, A, ⟨hN, XAt_k hC.2.1 (SmC_g A hm (by omega)) (SmC_g A hm (by omega)), LF_k hC.2.2 (fun i h1 h2 => SmC_g A hm (by omega))⟩, Or.inl rfl, I, fun i hi => hh i (by omega), fun _ => rfl⟩
theorem SmT_o {x3 qc : Nat} {h' : PH} (hm : SmT x3 qc h h') {x : Nat} (h1 : ¬ x = x3) (h2 : ¬ x = qc) : h' x = h x := hm x h1 h2
theorem LC.type (H : LC ca h g B s ss T n f) {x : Int32} (hx : isIn x 32 126 = true) (hn : n < 60) (hp : ∀ h1 f', LC ca h1 g B s ss T (n + 1) f' → post (some (.int (nI (n + 1)))) h1) : sp_X7_type ca [.ref (g 0), .int x] h post := by
  obtain ⟨lk, oo, S, fo, le, pe, sn, A, hC, H⟩ := H
  refine ⟨g 0, bN g 0, g 23, g 113, _, g 114, n, f, x, rfl, hC.1.1, hC.2.1, gne A (by decide), gne A (by decide), gne A (by decide), fun z => ?_, fun z zn => ?_, fun z zn h1 hX hm => ?_⟩
  · rw [hx] at z
    cases z
  · omega
  · exact hp h1 _ ⟨lk, oo, S, fo, le, pe, sn, A, ⟨CN_k hC.1 (fun i hi => SmT_o hm (gne A (by omega)) (gne A (by omega))), hX, LF_k hC.2.2 (fun i a b => SmT_o hm (gne A (by omega)) (gne A (by omega)))⟩, H⟩
theorem LC.clear (H : LC ca h g B s ss T n f) (hp : ∀ h1, LC ca h1 g B s ss T 0 f → post (some (.int (nI n))) h1) : sp_X7_clearText ca [.ref (g 0)] h post := by
  obtain ⟨lk, oo, S, fo, le, pe, sn, A, hC, H⟩ := H
  refine ⟨g 0, bN g 0, g 23, g 113, _, g 114, n, f, rfl, hC.1.1, hC.2.1, gne A (by decide), fun h1 hX hm => ?_⟩
  exact hp h1 ⟨lk, oo, S, fo, le, pe, sn, A, ⟨CN_k hC.1 (fun i hi => SmT_o hm (gne A (by omega)) (gne A (by omega))), hX, LF_k hC.2.2 (fun i a b => SmT_o hm (gne A (by omega)) (gne A (by omega)))⟩, H⟩
theorem lres {s : Nat → Int32} {fo le pe sn : Int32} (hr : LoopRes s fo le pe sn) {x : Int32} (hx : x = 0 ∨ x = 1) : aLoop fo le pe sn x = -10000004 ↔ nrep s := by
  have neg : ∀ N : Nat, N < 2 ^ 31 → ¬ nI N = -10000004 := fun N hN z => by
    have e := congrArg Int32.toInt z
    rw [nI_toInt hN] at e
    have c : (-10000004 : Int32).toInt = -10000004 := rfl
    omega
  rcases hr with ⟨M, j, hM, hj, ek, hn, rfl, rfl, rfl, rfl⟩ | ⟨hn, rfl⟩
  · have no : ¬ nrep s := fun z => z j M hj hM ek
    refine ⟨fun z => ?_, fun z => absurd z no⟩
    unfold aLoop at z
    rw [if_neg (by decide)] at z
    rcases hx with rfl | rfl
    · rw [if_pos rfl] at z
      exact absurd z (neg _ (by omega))
    · rw [if_neg (by decide), if_pos rfl] at z
      exact absurd z (neg _ (by omega))
  · refine ⟨fun _ => hn, fun _ => ?_⟩
    unfold aLoop
    rw [if_pos rfl]
theorem LC.loop (H : LC ca h g B s ss T n f) {x : Int32} (hx : x = 0 ∨ x = 1) (hp : ∀ h1 v, LC ca h1 g B s ss T n f → (v = -10000004 ↔ nrep s) → post (some (.int v)) h1) : sp_X7_loop ca [.ref (g 0), .int x] h post := by
  have H0 := H
  obtain ⟨lk, oo, S, fo, le, pe, sn, A, hC, hl, hb, hh, ht⟩ := H
  have W := hb.wf
  have hx2 : isIn x 0 2 = true := by rcases hx with rfl | rfl <;> decide
  have hl' : lk = 0 ∨ lk = 1 := by
    rcases hl with z | z
    · exact Or.inl z
    · exact Or.inr z.1
  refine ⟨g 0, bN g, g 23, g 113, g 115, g 141, lk, s, tbN g, g 138, g 139, g 140, fo, le, pe, sn, x, rfl, hC.1.1, hC.1.2.1, DLp_g A, ⟨gne A (by decide), fun k hk => gne A (by omega), gne A (by decide), gne A (by decide), gne A (by decide)⟩, W.boS, W.wfS, hC.2.2, hl', fun z => ?_, fun z zl => ?_, fun z zl h1 fo' le' pe' sn' hr hL ho hm => ?_⟩
  · rw [hx2] at z
    cases z
  · refine hp h _ H0 (lres ?_ hx)
    rcases hl with z' | z'
    · exact absurd (zl.symm.trans z') (by decide)
    · exact z'.2
  · have e : ∀ i, 1 ≤ i → (i < 115 ∨ 141 ≤ i) → h1 (g i) = h (g i) := fun i a b => hm _ (gne A (by omega)) (gne A (by omega)) (fun k hk => gne A (by omega)) (gne A (by omega)) (gne A (by omega)) (gne A (by omega))
    obtain ⟨c1, c2, c3, ⟨fx, c4, c5⟩, c6, c7, c8⟩ := hC.1
    have hC1 : CI7 ca h1 g 1 s oo ss S n f fo' le' pe' sn' := ⟨⟨ho, SAt_kept c2 (fun i hi => e (1 + i) (by omega) (by omega)), (e 23 (by decide) (by decide)).trans c3, ⟨fx, (e 24 (by decide) (by decide)).trans c4, c5⟩, fun i hi => SAt_kept (c6 i hi) (fun j hj => e (25 + 22 * i + j) (by omega) (by omega)), c7, c8⟩, XAt_k hC.2.1 (e 113 (by decide) (by decide)) (e 114 (by decide) (by decide)), hL⟩
    exact hp h1 _ ⟨1, oo, S, fo', le', pe', sn', A, hC1, Or.inr ⟨rfl, hr⟩, hb, hh, ht⟩ (lres hr hx)
end
