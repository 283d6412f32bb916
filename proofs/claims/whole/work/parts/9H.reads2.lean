/-! the calls that change nothing, both sides' -/
section
variable {ca : Nat → ClassId} {h : PH} {g q : Nat → Nat} {B : Nat}
theorem both_stripOf (A : Ap g q) (H : LW ca h g q B) (x w : Int32) : Both (sp_X7_stripOf ca) (sp_X8_stripOf ca) ca h g q B [.int x, .int w] := by
  have H0 := H
  obtain ⟨lk, s, oo, ss, S, n, f, fo, le, pe, sn, R, p, f', H⟩ := H
  intro post hp
  have W := H.2.2.2.1.2.2.1
  have HL := H.2.2.2.1.1
  have e := ans_strip H.2.2.2.1 x w
  exact ⟨g 0, bN g, g 23, g 24, BN g, g 113, g 115, g 141, lk, s, oo, ss, S, x, w, rfl, H.1.1, W.wfS, W.boS, hp _ h (fun post2 h2 => ⟨q 0, qN q, R, p, ss, f', n, x, w, rfl, H.2.1, HL.wfS W, HL.okR W, by rw [← e]; exact h2 h H0⟩)⟩
theorem both_partOf (A : Ap g q) (H : LW ca h g q B) (x i w : Int32) : Both (sp_X7_partOf ca) (sp_X8_partOf ca) ca h g q B [.int x, .int i, .int w] := by
  have H0 := H
  obtain ⟨lk, s, oo, ss, S, n, f, fo, le, pe, sn, R, p, f', H⟩ := H
  intro post hp
  have W := H.2.2.2.1.2.2.1
  have HL := H.2.2.2.1.1
  have e := ans_part H.2.2.2.1 x i w
  exact ⟨g 0, bN g, g 23, g 24, BN g, g 113, g 115, g 141, lk, s, oo, ss, S, x, i, w, rfl, H.1.1, W.wfS, hp _ h (fun post2 h2 => ⟨q 0, qN q, R, p, ss, f', n, x, i, w, rfl, H.2.1, HL.wfS W, by rw [← e]; exact h2 h H0⟩)⟩
theorem both_roomOf (A : Ap g q) (H : LW ca h g q B) (x w : Int32) : Both (sp_X7_roomOf ca) (sp_X8_roomOf ca) ca h g q B [.int x, .int w] := by
  have H0 := H
  obtain ⟨lk, s, oo, ss, S, n, f, fo, le, pe, sn, R, p, f', H⟩ := H
  intro post hp
  have W := H.2.2.2.1.2.2.1
  have HL := H.2.2.2.1.1
  have e := ans_room H.2.2.2.1 x w
  exact ⟨g 0, bN g, g 23, g 24, BN g, g 113, g 115, g 141, lk, s, oo, ss, S, x, w, rfl, H.1.1, W.boS, hp _ h (fun post2 h2 => ⟨q 0, qN q, R, p, ss, f', n, x, w, rfl, H.2.1, by rw [← e]; exact h2 h H0⟩)⟩
theorem both_count (A : Ap g q) (H : LW ca h g q B) (w : Int32) : Both (sp_X7_count ca) (sp_X8_count ca) ca h g q B [.int w] := by
  have H0 := H
  obtain ⟨lk, s, oo, ss, S, n, f, fo, le, pe, sn, R, p, f', H⟩ := H
  intro post hp
  have W := H.2.2.2.1.2.2.1
  have HL := H.2.2.2.1.1
  have e := ans_count H.2.2.2.1 ss n w
  exact ⟨g 0, bN g, g 23, g 24, BN g, g 113, g 115, g 141, lk, s, oo, ss, S, g 114, n, f, w, rfl, H.1.1, H.1.2.1, hp _ h (fun post2 h2 => ⟨q 0, qN q, R, p, ss, f', n, w, rfl, H.2.1, by rw [← e]; exact h2 h H0⟩)⟩
theorem both_bend (A : Ap g q) (H : LW ca h g q B) (x w : Int32) : Both (sp_X7_bend ca) (sp_X8_bend ca) ca h g q B [.int x, .int w] := by
  have H0 := H
  obtain ⟨lk, s, oo, ss, S, n, f, fo, le, pe, sn, R, p, f', H⟩ := H
  intro post hp
  have W := H.2.2.2.1.2.2.1
  have HL := H.2.2.2.1.1
  have e := ans_bend H.2.2.2.1 x w
  exact ⟨g 0, bN g, g 23, g 24, BN g, g 113, g 115, g 141, lk, s, oo, ss, S, x, w, rfl, H.1.1, W.wfS, hp _ h (fun post2 h2 => ⟨q 0, qN q, R, p, ss, f', n, x, w, rfl, H.2.1, HL.wfS W, by rw [← e]; exact h2 h H0⟩)⟩
theorem both_tripsAt (A : Ap g q) (H : LW ca h g q B) (x w : Int32) : Both (sp_X7_tripsAt ca) (sp_X8_tripsAt ca) ca h g q B [.int x, .int w] := by
  have H0 := H
  obtain ⟨lk, s, oo, ss, S, n, f, fo, le, pe, sn, R, p, f', H⟩ := H
  intro post hp
  have W := H.2.2.2.1.2.2.1
  have HL := H.2.2.2.1.1
  have e := ans_trip H.2.2.2.1 x w
  exact ⟨g 0, bN g, g 23, g 24, BN g, g 113, g 115, g 141, lk, s, oo, ss, S, x, w, rfl, H.1.1, W.wfS, hp _ h (fun post2 h2 => ⟨q 0, qN q, R, p, ss, f', n, x, w, rfl, H.2.1, HL.wfS W, by rw [← e]; exact h2 h H0⟩)⟩
theorem both_fault (A : Ap g q) (H : LW ca h g q B) (x : Int32) : Both (sp_X7_fault ca) (sp_X8_fault ca) ca h g q B [.int x] := by
  obtain ⟨lk, s, oo, ss, S, n, f, fo, le, pe, sn, R, p, f', H⟩ := H
  intro post hp
  have e := ans_fault H.1.2.1.2.2 H.2.2.2.2.2 x
  exact ⟨g 0, bN g 0, g 23, g 113, _, g 114, n, f, x, rfl, H.1.1.1, H.1.2.1, hp _ h (fun post2 h2 => ⟨q 0, qN q, R, p, ss, f', n, x, rfl, RI_q A.2.1, H.1.2.1.2.2, H.2.1, fun h3 hr hm => by
    rw [← e]
    exact h2 h3 ⟨lk, s, oo, ss, S, n, f, fo, le, pe, sn, R, p, f', CI_k H.1 (fun i hi => SmR_g A hm hi), hr, H.2.2⟩⟩)⟩
theorem both_undo (A : Ap g q) (H : LW ca h g q B) : Both (sp_X7_undo ca) (sp_X8_undo ca) ca h g q B [] := by
  have H0 := H
  obtain ⟨lk, s, oo, ss, S, n, f, fo, le, pe, sn, R, p, f', H⟩ := H
  intro post hp
  have h4 : ss ≤ 4 := H.1.1.2.2.2.2.2.2
  refine ⟨g 0, bN g, g 23, g 24, BN g, g 113, g 115, g 141, lk, s, oo, ss, S, rfl, DJ_g A.1, H.1.1, fun z => hp _ h (fun post2 h2 => ⟨q 0, qN q, R, p, ss, f', n, rfl, RI_q A.2.1, h4, H.2.1, fun _ => h2 h H0, fun u hu => absurd (z.symm.trans hu) (by omega)⟩), fun u hu => ?_⟩
  subst hu
  have G := H.2.2.2.2.1 u (by omega)
  refine ⟨G.2.2.1.boS, fun h1 hN hm => hp _ h1 (fun post2 h2 => ⟨q 0, qN q, R, p, u + 1, f', n, rfl, RI_q A.2.1, h4, RAt_k H.2.1 (fun i hi => SmC_q A hm hi), fun z => absurd z (by omega), fun v hv h3 s' p' es ep hr hm' => ?_⟩)⟩
  have ev : u = v := by omega
  subst ev
  have hC1 : CI ca h1 g 0 (S ((oo + u) % 4)) oo u S n f fo le pe sn := ⟨hN, XAt_k H.1.2.1 (SmC_g A.1 hm (by omega)) (SmC_g A.1 hm (by omega)), LF_k H.1.2.2.1 (fun i h1 h2 => SmC_g A.1 hm (by omega)), SFs_k H.1.2.2.2 (fun i h1 h2 => SmC_g A.1 hm (by omega))⟩
  refine h2 h3 ⟨0, _, oo, u, S, n, f, fo, le, pe, sn, s', p', f', CI_k hC1 (fun i hi => SmR_g A hm' hi), hr, Or.inl rfl, G.cong (fun j hj => (es j hj).symm), ?_, H.2.2.2.2.2⟩
  have HH : HR B S oo u p := fun i hi => H.2.2.2.2.1 i (by omega)
  exact HH.cong (by omega) (fun j hj => (ep j hj).symm)
end
