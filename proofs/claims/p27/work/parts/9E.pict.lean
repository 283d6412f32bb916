/-! the whole picture: the class's cells g 0 .. g 145, the reference's q 0 .. q 10 -/
def bN (g : Nat → Nat) : Nat → Nat := fun j => g (1 + j)
def BN (g : Nat → Nat) : Nat → Nat → Nat := fun i j => g (25 + 22 * i + j)
def tbN (g : Nat → Nat) : Nat → Nat := fun j => g (116 + j)
theorem inj_sh {g : Nat → Nat} (hg : Inj g) (c : Nat) : Inj (fun j => g (c + j)) := fun i j => by
  show g (c + i) = g (c + j) ↔ i = j
  rw [hg]
  omega
section
variable {g : Nat → Nat}
theorem gne (hg : Inj g) {i j : Nat} (h : ¬ i = j) : ¬ g i = g j := fun z => h ((hg i j).mp z)
theorem DJ_g (hg : Inj g) : DJ (g 0) (bN g) (g 23) (g 24) (BN g) := by
  refine ⟨inj_sh hg 1, fun i hi => ⟨inj_sh hg _, fun x y hx hy => ?_, fun k hk => gne hg (by omega)⟩, fun i j hi hj hij x y hx hy => ?_, gne hg (by decide), fun k hk => gne hg (by omega), fun i hi k hk => gne hg (by omega), fun k hk => gne hg (by omega), gne hg (by decide), gne hg (by decide), fun k hk => gne hg (by omega), fun i hi k hk => gne hg (by omega)⟩
  · exact ⟨fun z => gne hg (show ¬ 25 + 22 * i + x = 1 + y by omega) z, False.elim⟩
  · exact ⟨fun z => gne hg (show ¬ 25 + 22 * i + x = 25 + 22 * j + y by omega) z, False.elim⟩
theorem DLp_g (hg : Inj g) : DLp (g 115) (tbN g) (g 138) (g 139) (g 140) (bN g) := by
  refine ⟨inj_sh hg _, inj_sh hg _, fun x y hx hy => ⟨fun z => gne hg (show ¬ 116 + x = 1 + y by omega) z, False.elim⟩, fun k hk => gne hg (by omega), fun k hk => gne hg (by omega), fun k hk => gne hg (by omega), fun k hk => gne hg (by omega), ?_, ?_, ?_, ?_, ?_, ?_⟩ <;> exact gne hg (by decide)
theorem DS_g (hg : Inj g) : DS (g 141) (g 142) (g 143) (g 144) (g 145) := by
  refine ⟨?_, ?_, ?_, ?_, ?_, ?_, ?_, ?_, ?_, ?_⟩ <;> exact gne hg (by decide)
theorem RI_q {q : Nat → Nat} (hq : Inj q) : RI (q 0) (fun i => q (1 + i)) := ⟨inj_sh hq 1, fun i => gne hq (by omega)⟩
end
section
variable {ca : Nat → ClassId} {h h' : PH} {g : Nat → Nat} {lk : Int32} {s f : Nat → Int32} {oo ss n : Nat} {S : Nat → Nat → Int32} {fo le pe sn : Int32}
theorem CN_k (hC : CN ca h (g 0) (bN g) (g 23) (g 24) (BN g) (g 113) (g 115) (g 141) lk s oo ss S) (e : ∀ i, i < 113 → h' (g i) = h (g i)) : CN ca h' (g 0) (bN g) (g 23) (g 24) (BN g) (g 113) (g 115) (g 141) lk s oo ss S := by
  obtain ⟨h1, h2, h3, ⟨fx, h4, h5⟩, h6, h7, h8⟩ := hC
  exact ⟨(e 0 (by decide)).trans h1, SAt_kept h2 (fun i hi => e (1 + i) (by omega)), (e 23 (by decide)).trans h3, ⟨fx, (e 24 (by decide)).trans h4, h5⟩, fun i hi => SAt_kept (h6 i hi) (fun j hj => e (25 + 22 * i + j) (by omega)), h7, h8⟩
theorem XAt_k {a b : Nat} (hX : XAt ca h a b n f) (e1 : h' a = h a) (e2 : h' b = h b) : XAt ca h' a b n f := ⟨e1.trans hX.1, e2.trans hX.2.1, hX.2.2⟩
theorem LF_k (hL : LF ca h (g 115) (tbN g) (g 138) (g 139) (g 140) fo le pe sn) (e : ∀ i, 115 ≤ i → i < 141 → h' (g i) = h (g i)) : LF ca h' (g 115) (tbN g) (g 138) (g 139) (g 140) fo le pe sn := by
  obtain ⟨h1, ⟨tt, h2⟩, ⟨kf, h3⟩, ⟨sf, h4⟩, T, h5⟩ := hL
  exact ⟨(e 115 (by decide) (by decide)).trans h1, ⟨tt, SAt_kept h2 (fun i hi => e (116 + i) (by omega) (by omega))⟩, ⟨kf, (e 138 (by decide) (by decide)).trans h3⟩, ⟨sf, (e 139 (by decide) (by decide)).trans h4⟩, T, (e 140 (by decide) (by decide)).trans h5⟩
theorem SFs_k (hS : SFs ca h (g 141) (g 142) (g 143) (g 144) (g 145)) (e : ∀ i, 141 ≤ i → i < 146 → h' (g i) = h (g i)) : SFs ca h' (g 141) (g 142) (g 143) (g 144) (g 145) := by
  have e1 := e 141 (by decide) (by decide)
  have e2 := e 142 (by decide) (by decide)
  have e3 := e 143 (by decide) (by decide)
  have e4 := e 144 (by decide) (by decide)
  have e5 := e 145 (by decide) (by decide)
  obtain ⟨tm, pc, Nf, pr, ⟨nf, h1, h1'⟩, ⟨pf, h2⟩, ⟨bo, h3⟩, ⟨b2, h4⟩, h5, h6⟩ := hS
  refine ⟨tm, pc, Nf, pr, ⟨nf, e2.trans h1, h1'⟩, ⟨pf, e3.trans h2⟩, ⟨bo, e4.trans h3⟩, ⟨b2, e5.trans h4⟩, e1.trans h5, ?_⟩
  rcases h6 with h6 | ⟨h6, k1, ⟨nf', k2, k2'⟩, ⟨pf', k3, k3'⟩, ⟨bo', k4, k4'⟩, ⟨b2', k5, k5'⟩, k6⟩
  · exact Or.inl h6
  · exact Or.inr ⟨h6, e1.trans k1, ⟨nf', e2.trans k2, k2'⟩, ⟨pf', e3.trans k3, k3'⟩, ⟨bo', e4.trans k4, k4'⟩, ⟨b2', e5.trans k5, k5'⟩, k6⟩
theorem RAt_k {q : Nat → Nat} {p : Nat → Int32} {t : Nat} (hR : RAt ca h (q 0) (fun i => q (1 + i)) s p t f n) (e : ∀ i, i < 11 → h' (q i) = h (q i)) : RAt ca h' (q 0) (fun i => q (1 + i)) s p t f n := by
  obtain ⟨gg, fm, at', re, bd, kp, ks, iw, ip, fo, em, e0, e1, e2, e3, e4, e5, e6, e7, e8, e9⟩ := hR
  exact ⟨gg, fm, at', re, bd, kp, ks, iw, ip, fo, (e 0 (by decide)).trans em, (e 1 (by decide)).trans e0, (e 2 (by decide)).trans e1, (e 3 (by decide)).trans e2, (e 4 (by decide)).trans e3, (e 5 (by decide)).trans e4, (e 6 (by decide)).trans e5, (e 7 (by decide)).trans e6, (e 8 (by decide)).trans e7, (e 9 (by decide)).trans e8, (e 10 (by decide)).trans e9⟩
end

