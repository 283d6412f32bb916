/-! read; a typed character -/
section
variable {C R f f' : Nat → Int32} {B n k : Nat}
theorem fst_upd {s : Nat → Int32} {i N : Nat} : rpS s f (10 + 32 * k) N (i + 1) = fPart (rpS s f (10 + 32 * k) N i) k i (f (4 * i) - 48) (f (4 * i + 1) - 97) (f (4 * i + 2) - 97) := rfl
theorem sub_in {x a b c d e : Int32} (h : isIn x a b = true) (hc : c.toInt = a.toInt - d.toInt) (he : e.toInt = b.toInt - d.toInt) (h1 : 0 ≤ a.toInt) (h2 : 0 ≤ d.toInt) : isIn (x - d) c e = true := by
  have z := isIn_z.mp h
  have t : (x - d).toInt = x.toInt - d.toInt := by
    rw [show x - d = zI (x.toInt - d.toInt) by rw [← zI_sub, ← zI_of, ← zI_of]]
    have := Int32.toInt_le x
    have := Int32.toInt_le d
    have := Int32.le_toInt d
    have cm : Int32.maxValue.toInt = 2147483647 := rfl
    have cn : Int32.minValue.toInt = -2147483648 := rfl
    exact zI_t (by omega) (by omega)
  refine isIn_z.mpr ?_
  rw [t]
  omega
theorem RB.reads (H : RB B C R) (hk : k < 3) {N : Nat} (hN : N ≤ 8) (hc : C (10 + 32 * k) = nI N) (hn : n ≤ 32) (hf : ∀ j, j < n → f j = f' j) (can : ∀ j, j < n → canF f j = true) : ∀ i, 4 * i ≤ n + 1 → RB B (rdC C f k i) (rpS R f' (10 + 32 * k) N i)
  | 0, _ => by
    have h := H.cut hk (y := N) hN hc
    rw [Nat.sub_self] at h
    exact h
  | i + 1, hi => by
    have h := RB.reads H hk hN hc hn hf can i (by omega)
    have c0 := can (4 * i) (by omega)
    have c1 := can (4 * i + 1) (by omega)
    have c2 := can (4 * i + 2) (by omega)
    rw [can0] at c0
    rw [can1] at c1
    rw [can2] at c2
    rw [fst_upd, ← hf (4 * i) (by omega), ← hf (4 * i + 1) (by omega), ← hf (4 * i + 2) (by omega)]
    exact h.part hk (by omega) (rdC_0 i) (in19 (sub_in c0 rfl rfl (by decide) (by decide))) (sub_in c1 rfl rfl (by decide) (by decide)) (sub_in c2 rfl rfl (by decide) (by decide))
theorem act_read (H : RB B C R) (hn : n ≤ 60) (hf : ∀ j, j < n → f j = f' j) (x : Int32) : ActOk B (vRead f n x) (aReadC f n x) (rdC C f x.toNatClampNeg ((n + 1) / 4)) (aRead f' n x) (rpS R f' (10 + 32 * x.toNatClampNeg) (nPt R x) (rdN f' n).toNatClampNeg) := by
  unfold vRead aReadC aRead rdN
  have pc := place_cong hf
  cases h : isIn x 0 2 with
  | false => exact .no rfl (by rw [if_neg (by decide), if_neg (by decide)]) (by rw [if_neg (by decide)]; exact inv_le)
  | true =>
    have hk := kOf h
    obtain ⟨n1, n2, n3⟩ := H.npt hk
    rw [if_pos rfl, if_pos rfl, Bool.true_and, ← n1]
    rcases rdF_res (f := f') hn with ⟨r1, r2, r3⟩ | ⟨r1, r2, r3, r4⟩
    · have np : ¬ (rdF f' n 0).1 < 0 := by rw [r1]; exact nI_pos (by omega)
      rw [pc, if_pos r2, if_neg np, r1, nI_clamp (by omega)]
      exact .yes (decide_eq_true r2) rfl (nI_big (by omega)) (H.reads hk n2 n3 r3 hf (place_can (pc.trans r2)) _ (by omega))
    · have lt : (rdF f' n 0).1 < 0 := by rw [r1]; decide
      have ne : ¬ placeF f' n = -1 := by rw [r2]; exact m1_ne (by omega)
      rw [pc, if_neg ne, if_pos lt]
      exact .no (decide_eq_false ne) rfl (by decide)
theorem typ_nar : ∀ X : Nat, X < 127 → vp_nar .char (nar16 (nI X)) = nI X := by decide +kernel
theorem typ_n {x : Int32} (h : isIn x 32 126 = true) : vp_nar .char (nar16 x) = x := by
  obtain ⟨X, hX, rfl⟩ := isIn1 (B := 126) (a := 32) (by decide) rfl h
  exact typ_nar X (by omega)
theorem typ_e {x : Int32} (h : isIn x 32 126 = true) (hf : ∀ j, j < n → f j = f' j) : ∀ j, j < n + 1 → upd f n (vp_nar .char (nar16 x)) j = upd f' n x j := by
  intro j hj
  rw [typ_n h, upd_app, upd_app]
  by_cases q : j = n
  · rw [if_pos q, if_pos q]
  · rw [if_neg q, if_neg q]
    exact hf j (by omega)
end

