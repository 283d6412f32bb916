/-! type, clearText, loop: both sides -/
section
variable {ca : Nat → ClassId} {h h' : PH} {g q : Nat → Nat} {B : Nat}
theorem SmT_o {x3 qc : Nat} (hm : SmT x3 qc h h') {x : Nat} (h1 : ¬ x = x3) (h2 : ¬ x = qc) : h' x = h x := hm x h1 h2
theorem both_type (A : Ap g q) (H : LW ca h g q B) (x : Int32) : Both (sp_X7_type ca) (sp_X8_type ca) ca h g q B [.int x] := by
  have H0 := H
  obtain ⟨lk, s, oo, ss, S, n, f, fo, le, pe, sn, R, p, f', H⟩ := H
  intro post hp
  have n60 := H.1.2.1.2.2
  refine ⟨g 0, bN g 0, g 23, g 113, _, g 114, n, f, x, rfl, H.1.1.1, H.1.2.1, gne A.1 (by decide), gne A.1 (by decide), gne A.1 (by decide), fun z => ?_, fun z zn => ?_, fun z zn h1 hX hm => ?_⟩
  · exact hp _ h (fun post2 h2 => ⟨q 0, qN q, R, p, ss, f', n, x, rfl, RI_q A.2.1, n60, H.2.1, fun _ => h2 h H0, fun z' => absurd (z.symm.trans z') (by decide), fun z' => absurd (z.symm.trans z') (by decide)⟩)
  · exact hp _ h (fun post2 h2 => ⟨q 0, qN q, R, p, ss, f', n, x, rfl, RI_q A.2.1, n60, H.2.1, fun z' => absurd (z'.symm.trans z) (by decide), fun _ _ => h2 h H0, fun _ l => absurd l (by omega)⟩)
  · refine hp _ h1 (fun post2 h2 => ⟨q 0, qN q, R, p, ss, f', n, x, rfl, RI_q A.2.1, n60, RAt_k H.2.1 (fun i hi => SmT_o hm (fun e => A.2.2 113 i (by decide) hi e.symm) (fun e => A.2.2 114 i (by decide) hi e.symm)), fun z' => absurd (z'.symm.trans z) (by decide), fun _ l => absurd l (by omega), fun _ _ h3 hr hm' => ?_⟩)
    have hC1 : CI ca h1 g lk s oo ss S (n + 1) (upd f n (vp_nar .char (nar16 x))) fo le pe sn := ⟨CN_k H.1.1 (fun i hi => SmT_o hm (gne A.1 (by omega)) (gne A.1 (by omega))), hX, LF_k H.1.2.2.1 (fun i a b => SmT_o hm (gne A.1 (by omega)) (gne A.1 (by omega))), SFs_k H.1.2.2.2 (fun i a b => SmT_o hm (gne A.1 (by omega)) (gne A.1 (by omega)))⟩
    exact h2 h3 ⟨lk, s, oo, ss, S, n + 1, _, fo, le, pe, sn, R, p, _, CI_k hC1 (fun i hi => SmR_g A hm' hi), hr, H.2.2.1, H.2.2.2.1, H.2.2.2.2.1, typ_e z H.2.2.2.2.2⟩
theorem both_clearText (A : Ap g q) (H : LW ca h g q B) : Both (sp_X7_clearText ca) (sp_X8_clearText ca) ca h g q B [] := by
  obtain ⟨lk, s, oo, ss, S, n, f, fo, le, pe, sn, R, p, f', H⟩ := H
  intro post hp
  refine ⟨g 0, bN g 0, g 23, g 113, _, g 114, n, f, rfl, H.1.1.1, H.1.2.1, gne A.1 (by decide), fun h1 hX hm => ?_⟩
  refine hp _ h1 (fun post2 h2 => ⟨q 0, qN q, R, p, ss, f', n, rfl, RI_q A.2.1, RAt_k H.2.1 (fun i hi => SmT_o hm (fun e => A.2.2 113 i (by decide) hi e.symm) (fun e => A.2.2 114 i (by decide) hi e.symm)), fun h3 hr hm' => ?_⟩)
  have hC1 : CI ca h1 g lk s oo ss S 0 f fo le pe sn := ⟨CN_k H.1.1 (fun i hi => SmT_o hm (gne A.1 (by omega)) (gne A.1 (by omega))), hX, LF_k H.1.2.2.1 (fun i a b => SmT_o hm (gne A.1 (by omega)) (gne A.1 (by omega))), SFs_k H.1.2.2.2 (fun i a b => SmT_o hm (gne A.1 (by omega)) (gne A.1 (by omega)))⟩
  exact h2 h3 ⟨lk, s, oo, ss, S, 0, f, fo, le, pe, sn, R, p, f', CI_k hC1 (fun i hi => SmR_g A hm' hi), hr, H.2.2.1, H.2.2.2.1, H.2.2.2.2.1, fun j hj => absurd hj (by omega)⟩
theorem loop_ref (A : Ap g q) {lk : Int32} {s f : Nat → Int32} {oo ss n : Nat} {S : Nat → Nat → Int32} {fo le pe sn : Int32} {R p f' : Nat → Int32} (hB : B ≤ 1000000) (H : LWx ca h g q B lk s oo ss S n f fo le pe sn R p f') (hr : LoopRes s fo le pe sn) (x : Int32) (hx : isIn x 0 2 = true) {post2 : Option Value → PH → Prop} (h2 : ∀ h2, LW ca h2 g q B → post2 (some (.int (aLoop fo le pe sn x))) h2) : sp_X8_loop ca [.ref (q 0), .int x] h post2 := by
  have W := H.2.2.2.1.2.2.1
  have HL := H.2.2.2.1.1
  have h4 : ss ≤ 4 := H.1.1.2.2.2.2.2.2
  have fin : ∀ v, aLoop fo le pe sn x = v → RP ca h (q 0) (qN q) f' n post2 v R p ss := by
    intro v ev h3 s' p' es ep hr hm
    rw [← ev]
    exact h2 h3 ⟨lk, s, oo, ss, S, n, f, fo, le, pe, sn, s', p', f', CI_k H.1 (fun i hi => SmR_g A hm hi), hr, H.2.2.1, H.2.2.2.1.cong (fun j hj => (es j hj).symm), H.2.2.2.2.1.cong h4 (fun j hj => (ep j hj).symm), H.2.2.2.2.2⟩
  exact ⟨q 0, qN q, R, p, ss, f', n, x, rfl, RI_q A.2.1, H.2.1, HL.wfS W, HL.okR W, fun z => absurd (z.symm.trans hx) (by decide), fun _ hn => fin _ (loop_no H.2.2.2.1 hB hr hn), fun _ P L a1 a2 a3 a4 a5 a6 a7 => fin _ (loop_yes H.2.2.2.1 hB hr a1 a2 a3 a4 a5 a6 a7)⟩
theorem both_loop (A : Ap g q) (H : LW ca h g q B) (hB : B ≤ 1000000) (x : Int32) : Both (sp_X7_loop ca) (sp_X8_loop ca) ca h g q B [.int x] := by
  have H0 := H
  obtain ⟨lk, s, oo, ss, S, n, f, fo, le, pe, sn, R, p, f', H⟩ := H
  intro post hp
  have W := H.2.2.2.1.2.2.1
  have HL := H.2.2.2.1.1
  have hl : lk = 0 ∨ lk = 1 := by
    rcases H.2.2.1 with z | z
    · exact Or.inl z
    · exact Or.inr z.1
  refine ⟨g 0, bN g, g 23, g 113, g 115, g 141, lk, s, tbN g, g 138, g 139, g 140, fo, le, pe, sn, x, rfl, H.1.1.1, H.1.1.2.1, DLp_g A.1, ⟨gne A.1 (by decide), fun k hk => gne A.1 (by omega), gne A.1 (by decide), gne A.1 (by decide), gne A.1 (by decide)⟩, W.boS, W.wfS, H.1.2.2.1, hl, fun z => ?_, fun z zl => ?_, fun z zl h1 fo' le' pe' sn' hr hL ho hm => ?_⟩
  · refine hp _ h (fun post2 h2 => ⟨q 0, qN q, R, p, ss, f', n, x, rfl, RI_q A.2.1, H.2.1, HL.wfS W, HL.okR W, fun _ => h2 h H0, fun z' => absurd (z.symm.trans z') (by decide), fun z' => absurd (z.symm.trans z') (by decide)⟩)
  · refine hp _ h (fun post2 h2 => loop_ref A hB H ?_ x z h2)
    rcases H.2.2.1 with z' | z'
    · exact absurd (zl.symm.trans z') (by decide)
    · exact z'.2
  · have e : ∀ i, 1 ≤ i → (i < 115 ∨ 141 ≤ i) → h1 (g i) = h (g i) := fun i a b => hm _ (gne A.1 (by omega)) (gne A.1 (by omega)) (fun k hk => gne A.1 (by omega)) (gne A.1 (by omega)) (gne A.1 (by omega)) (gne A.1 (by omega))
    have eq : ∀ i, i < 11 → h1 (q i) = h (q i) := fun i hi => hm _ (fun z => A.2.2 0 i (by decide) hi z.symm) (fun z => A.2.2 115 i (by decide) hi z.symm) (fun k hk z => A.2.2 (116 + k) i (by omega) hi z.symm) (fun z => A.2.2 138 i (by decide) hi z.symm) (fun z => A.2.2 139 i (by decide) hi z.symm) (fun z => A.2.2 140 i (by decide) hi z.symm)
    obtain ⟨c1, c2, c3, ⟨fx, c4, c5⟩, c6, c7, c8⟩ := H.1.1
    have hC1 : CI ca h1 g 1 s oo ss S n f fo' le' pe' sn' := ⟨⟨ho, SAt_kept c2 (fun i hi => e (1 + i) (by omega) (by omega)), (e 23 (by decide) (by decide)).trans c3, ⟨fx, (e 24 (by decide) (by decide)).trans c4, c5⟩, fun i hi => SAt_kept (c6 i hi) (fun j hj => e (25 + 22 * i + j) (by omega) (by omega)), c7, c8⟩, XAt_k H.1.2.1 (e 113 (by decide) (by decide)) (e 114 (by decide) (by decide)), hL, SFs_k H.1.2.2.2 (fun i a b => e i (by omega) (by omega))⟩
    exact hp _ h1 (fun post2 h2 => loop_ref A hB ⟨hC1, RAt_k H.2.1 eq, Or.inr ⟨rfl, hr⟩, H.2.2.2⟩ hr x z h2)
end
