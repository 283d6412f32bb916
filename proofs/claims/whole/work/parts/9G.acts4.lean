/-! the acts' calls, both sides' -/
def Both (SC SR : SPEC) (ca : Nat → ClassId) (h : PH) (g q : Nat → Nat) (B : Nat) (args : List Value) : Prop := ∀ post : Option Value → PH → Prop, (∀ (x : Int32) (h1 : PH), (∀ post2 : Option Value → PH → Prop, (∀ h2, LW ca h2 g q B → post2 (some (.int x)) h2) → SR (.ref (q 0) :: args) h1 post2) → post (some (.int x)) h1) → SC (.ref (g 0) :: args) h post
section
variable {ca : Nat → ClassId} {h : PH} {g q : Nat → Nat} {B : Nat}
theorem both_metal (A : Ap g q) (H : LW ca h g q B) (x y : Int32) : Both (sp_X7_metal ca) (sp_X8_metal ca) ca h g q B [.int x, .int y] := by
  obtain ⟨lk, s, oo, ss, S, n, f, fo, le, pe, sn, R, p, f', H⟩ := H
  intro post hp
  have W := H.2.2.2.1.2.2.1
  have HL := H.2.2.2.1.1
  exact ⟨g 0, bN g, g 23, g 24, BN g, g 113, g 115, g 141, lk, s, oo, ss, S, x, y, rfl, DJ_g A.1, H.1.1, W.boS, act_core A H (Nat.le_refl _) (act_metal H.2.2.2.1 x y) (fun h1 mid => hp _ h1 (fun post2 h2 => by
    obtain ⟨h4, hR, ha⟩ := mid post2 h2
    exact ⟨q 0, qN q, R, p, ss, f', n, x, y, rfl, RI_q A.2.1, h4, hR, ha⟩))⟩
theorem both_outside (A : Ap g q) (H : LW ca h g q B) (x : Int32) : Both (sp_X7_outside ca) (sp_X8_outside ca) ca h g q B [.int x] := by
  obtain ⟨lk, s, oo, ss, S, n, f, fo, le, pe, sn, R, p, f', H⟩ := H
  intro post hp
  have W := H.2.2.2.1.2.2.1
  have HL := H.2.2.2.1.1
  exact ⟨g 0, bN g, g 23, g 24, BN g, g 113, g 115, g 141, lk, s, oo, ss, S, x, rfl, DJ_g A.1, H.1.1, W.boS, act_core A H (Nat.le_refl _) (act_outside H.2.2.2.1 x) (fun h1 mid => hp _ h1 (fun post2 h2 => by
    obtain ⟨h4, hR, ha⟩ := mid post2 h2
    exact ⟨q 0, qN q, R, p, ss, f', n, x, rfl, RI_q A.2.1, h4, hR, ha⟩))⟩
theorem both_warm (A : Ap g q) (H : LW ca h g q B) (x y : Int32) : Both (sp_X7_warm ca) (sp_X8_warm ca) ca h g q B [.int x, .int y] := by
  obtain ⟨lk, s, oo, ss, S, n, f, fo, le, pe, sn, R, p, f', H⟩ := H
  intro post hp
  have W := H.2.2.2.1.2.2.1
  have HL := H.2.2.2.1.1
  exact ⟨g 0, bN g, g 23, g 24, BN g, g 113, g 115, g 141, lk, s, oo, ss, S, x, y, rfl, DJ_g A.1, H.1.1, W.boS, act_core A H (Nat.le_refl _) (act_warm H.2.2.2.1 x y) (fun h1 mid => hp _ h1 (fun post2 h2 => by
    obtain ⟨h4, hR, ha⟩ := mid post2 h2
    exact ⟨q 0, qN q, R, p, ss, f', n, x, y, rfl, RI_q A.2.1, h4, hR, ha⟩))⟩
theorem both_set (A : Ap g q) (H : LW ca h g q B) (x y : Int32) : Both (sp_X7_set ca) (sp_X8_set ca) ca h g q B [.int x, .int y] := by
  obtain ⟨lk, s, oo, ss, S, n, f, fo, le, pe, sn, R, p, f', H⟩ := H
  intro post hp
  have W := H.2.2.2.1.2.2.1
  have HL := H.2.2.2.1.1
  exact ⟨g 0, bN g, g 23, g 24, BN g, g 113, g 115, g 141, lk, s, oo, ss, S, x, y, rfl, DJ_g A.1, H.1.1, W.boS, act_core A H (Nat.le_refl _) (act_set H.2.2.2.1 x y) (fun h1 mid => hp _ h1 (fun post2 h2 => by
    obtain ⟨h4, hR, ha⟩ := mid post2 h2
    exact ⟨q 0, qN q, R, p, ss, f', n, x, y, rfl, RI_q A.2.1, h4, hR, ha⟩))⟩
theorem both_heat (A : Ap g q) (H : LW ca h g q B) (x y z : Int32) : Both (sp_X7_heat ca) (sp_X8_heat ca) ca h g q B [.int x, .int y, .int z] := by
  obtain ⟨lk, s, oo, ss, S, n, f, fo, le, pe, sn, R, p, f', H⟩ := H
  intro post hp
  have W := H.2.2.2.1.2.2.1
  have HL := H.2.2.2.1.1
  exact ⟨g 0, bN g, g 23, g 24, BN g, g 113, g 115, g 141, lk, s, oo, ss, S, x, y, z, rfl, DJ_g A.1, H.1.1, W.boS, act_core A H (Nat.le_refl _) (act_heat H.2.2.2.1 x y z) (fun h1 mid => hp _ h1 (fun post2 h2 => by
    obtain ⟨h4, hR, ha⟩ := mid post2 h2
    exact ⟨q 0, qN q, R, p, ss, f', n, x, y, z, rfl, RI_q A.2.1, h4, hR, ha⟩))⟩
theorem both_contact (A : Ap g q) (H : LW ca h g q B) (x y : Int32) : Both (sp_X7_contact ca) (sp_X8_contact ca) ca h g q B [.int x, .int y] := by
  obtain ⟨lk, s, oo, ss, S, n, f, fo, le, pe, sn, R, p, f', H⟩ := H
  intro post hp
  have W := H.2.2.2.1.2.2.1
  have HL := H.2.2.2.1.1
  exact ⟨g 0, bN g, g 23, g 24, BN g, g 113, g 115, g 141, lk, s, oo, ss, S, x, y, rfl, DJ_g A.1, H.1.1, W.boS, act_core A H (Nat.le_refl _) (act_contact H.2.2.2.1 x y) (fun h1 mid => hp _ h1 (fun post2 h2 => by
    obtain ⟨h4, hR, ha⟩ := mid post2 h2
    exact ⟨q 0, qN q, R, p, ss, f', n, x, y, rfl, RI_q A.2.1, h4, hR, HL.okR W, ha⟩))⟩
theorem both_opening (A : Ap g q) (H : LW ca h g q B) (x y : Int32) : Both (sp_X7_opening ca) (sp_X8_opening ca) ca h g q B [.int x, .int y] := by
  obtain ⟨lk, s, oo, ss, S, n, f, fo, le, pe, sn, R, p, f', H⟩ := H
  intro post hp
  have W := H.2.2.2.1.2.2.1
  have HL := H.2.2.2.1.1
  exact ⟨g 0, bN g, g 23, g 24, BN g, g 113, g 115, g 141, lk, s, oo, ss, S, x, y, rfl, DJ_g A.1, H.1.1, W.boS, act_core A H (Nat.le_refl _) (act_opening H.2.2.2.1 x y) (fun h1 mid => hp _ h1 (fun post2 h2 => by
    obtain ⟨h4, hR, ha⟩ := mid post2 h2
    exact ⟨q 0, qN q, R, p, ss, f', n, x, y, rfl, RI_q A.2.1, h4, hR, ha⟩))⟩
theorem both_part (A : Ap g q) (H : LW ca h g q B) (x y z w : Int32) : Both (sp_X7_part ca) (sp_X8_part ca) ca h g q B [.int x, .int y, .int z, .int w] := by
  obtain ⟨lk, s, oo, ss, S, n, f, fo, le, pe, sn, R, p, f', H⟩ := H
  intro post hp
  have W := H.2.2.2.1.2.2.1
  have HL := H.2.2.2.1.1
  exact ⟨g 0, bN g, g 23, g 24, BN g, g 113, g 115, g 141, lk, s, oo, ss, S, x, y, z, w, rfl, DJ_g A.1, H.1.1, W.boS, W.wfS, act_core A H (Nat.le_refl _) (act_part H.2.2.2.1 x y z w) (fun h1 mid => hp _ h1 (fun post2 h2 => by
    obtain ⟨h4, hR, ha⟩ := mid post2 h2
    exact ⟨q 0, qN q, R, p, ss, f', n, x, y, z, w, rfl, RI_q A.2.1, h4, hR, HL.wfS W, ha⟩))⟩
theorem both_cut (A : Ap g q) (H : LW ca h g q B) (x y : Int32) : Both (sp_X7_cut ca) (sp_X8_cut ca) ca h g q B [.int x, .int y] := by
  obtain ⟨lk, s, oo, ss, S, n, f, fo, le, pe, sn, R, p, f', H⟩ := H
  intro post hp
  have W := H.2.2.2.1.2.2.1
  have HL := H.2.2.2.1.1
  exact ⟨g 0, bN g, g 23, g 24, BN g, g 113, g 115, g 141, lk, s, oo, ss, S, x, y, rfl, DJ_g A.1, H.1.1, W.boS, W.wfS, act_core A H (Nat.le_refl _) (act_cut H.2.2.2.1 x y) (fun h1 mid => hp _ h1 (fun post2 h2 => by
    obtain ⟨h4, hR, ha⟩ := mid post2 h2
    exact ⟨q 0, qN q, R, p, ss, f', n, x, y, rfl, RI_q A.2.1, h4, hR, HL.wfS W, ha⟩))⟩
theorem both_bounds (A : Ap g q) (H : LW ca h g q B) (x y z w : Int32) : Both (sp_X7_bounds ca) (sp_X8_bounds ca) ca h g q B [.int x, .int y, .int z, .int w] := by
  obtain ⟨lk, s, oo, ss, S, n, f, fo, le, pe, sn, R, p, f', H⟩ := H
  intro post hp
  have W := H.2.2.2.1.2.2.1
  have HL := H.2.2.2.1.1
  exact ⟨g 0, bN g, g 23, g 24, BN g, g 113, g 115, g 141, lk, s, oo, ss, S, x, y, z, w, rfl, DJ_g A.1, H.1.1, W.boS, W.wfS, act_core A H (Nat.le_refl _) (act_bounds H.2.2.2.1 x y z w) (fun h1 mid => hp _ h1 (fun post2 h2 => by
    obtain ⟨h4, hR, ha⟩ := mid post2 h2
    exact ⟨q 0, qN q, R, p, ss, f', n, x, y, z, w, rfl, RI_q A.2.1, h4, hR, HL.wfS W, ha⟩))⟩
theorem both_tick (A : Ap g q) (H : LW ca h g q B) (hB : B ≤ 1000000) (x : Int32) : Both (sp_X7_tick ca) (sp_X8_tick ca) ca h g q (B + 200) [.int x] := by
  obtain ⟨lk, s, oo, ss, S, n, f, fo, le, pe, sn, R, p, f', H⟩ := H
  intro post hp
  have W := H.2.2.2.1.2.2.1
  have HL := H.2.2.2.1.1
  exact ⟨g 0, bN g, g 23, g 24, BN g, g 113, g 115, g 141, lk, s, oo, ss, S, x, rfl, DJ_g A.1, H.1.1, W.boS, W.wfS, act_core A H (Nat.le_add_right _ _) (act_tick H.2.2.2.1 hB x) (fun h1 mid => hp _ h1 (fun post2 h2 => by
    obtain ⟨h4, hR, ha⟩ := mid post2 h2
    exact ⟨q 0, qN q, R, p, ss, f', n, x, rfl, RI_q A.2.1, h4, hR, HL.wfS W, HL.okR W, ha⟩))⟩
theorem both_read (A : Ap g q) (H : LW ca h g q B) (x : Int32) : Both (sp_X7_read ca) (sp_X8_read ca) ca h g q B [.int x] := by
  obtain ⟨lk, s, oo, ss, S, n, f, fo, le, pe, sn, R, p, f', H⟩ := H
  intro post hp
  have W := H.2.2.2.1.2.2.1
  have HL := H.2.2.2.1.1
  have hX := H.1.2.1
  exact ⟨g 0, bN g, g 23, g 24, BN g, g 113, g 115, g 141, lk, s, oo, ss, S, x, g 114, n, f, rfl, DJ_g A.1, H.1.1, W.boS, hX, fun h' hm => XAt_k hX (SmC_g A.1 hm (by omega)) (SmC_g A.1 hm (by omega)), act_core A H (Nat.le_refl _) (act_read H.2.2.2.1 hX.2.2 H.2.2.2.2.2 x) (fun h1 mid => hp _ h1 (fun post2 h2 => by
    obtain ⟨h4, hR, ha⟩ := mid post2 h2
    exact ⟨q 0, qN q, R, p, ss, f', n, x, rfl, RI_q A.2.1, h4, hX.2.2, hR, HL.wfS W, ha⟩))⟩
end
