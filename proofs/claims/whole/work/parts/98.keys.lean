/-! (the kit's rows to paste) long numbers: shifts, disjoint parts -/
theorem wb_tb (n : Nat) : (lN n).toBitVec = BitVec.ofNat 64 n := rfl
theorem wb_inj {a b : Int64} (h : a.toBitVec = b.toBitVec) : a = b := Int64.toBitVec_inj.mp h
theorem wb_c : ∀ k, k < 64 → ((nI k).toInt64 &&& 63) = lN k := by decide +kernel
theorem wb_sm : ∀ k, k < 64 → (BitVec.ofNat 64 k).smod 64 = BitVec.ofNat 64 k := by decide +kernel
theorem wb_shl (n : Nat) {k : Nat} (hk : k < 64) : lN n <<< ((nI k).toInt64 &&& 63) = lN (n * 2 ^ k) := by
  rw [wb_c k hk]
  apply wb_inj
  rw [Int64.toBitVec_shiftLeft, wb_tb, wb_tb, wb_tb, wb_sm k hk]
  apply BitVec.eq_of_toNat_eq
  rw [BitVec.shiftLeft_eq', BitVec.toNat_shiftLeft, BitVec.toNat_ofNat, BitVec.toNat_ofNat, BitVec.toNat_ofNat, Nat.mod_eq_of_lt (show k < 2 ^ 64 by omega), Nat.shiftLeft_eq, Nat.mul_mod, Nat.mod_mod, ← Nat.mul_mod]
theorem u_tn {n : Nat} (h : n < 2 ^ 64) : (UInt64.ofNat n).toNat = n := Nat.mod_eq_of_lt h
theorem g_or {k p a b : Nat} (hp : 2 ^ k = p) (ha : a < p) (h : b * p + a < 2 ^ 64) : lN (b * p) ||| lN a = lN (b * p + a) := by
  subst hp
  have h1 : b * 2 ^ k ||| a = b * 2 ^ k + a := by rw [← Nat.shiftLeft_eq, Nat.shiftLeft_add_eq_or_of_lt ha]
  have h3 : UInt64.ofNat (b * 2 ^ k) ||| UInt64.ofNat a = UInt64.ofNat (b * 2 ^ k + a) := UInt64.toNat_inj.mp (by rw [UInt64.toNat_or, u_tn (by omega), u_tn (by omega), u_tn h, h1])
  have h2 := congrArg UInt64.toInt64 h3
  exact h2
/-! a state of the loop as one number: the class's and the reference's -/
def lI (z : Int) : Int64 := Int64.ofInt z
theorem lI_n (n : Nat) : lN n = lI n := rfl
theorem lI_t (x : Int32) : x.toInt64 = lI x.toInt := rfl
theorem lI_add (x y : Int) : lI x + lI y = lI (x + y) := (Int64.ofInt_add x y).symm
theorem lI_sub (x y : Int) : lI x - lI y = lI (x - y) := (Int64.ofInt_sub x y).symm
theorem lI_mul (x y : Int) : lI x * lI y = lI (x * y) := (Int64.ofInt_mul x y).symm
section
variable {s : Nat → Int32} {k V w a p : Nat}
theorem sgK_n (hw : w ≤ 2000) (ha : a ≤ 1) (hp : p ≤ 5) (e1 : s (106 + 7 * k) = zI ((w : Int) - 500)) (e2 : s (14 + 32 * k) = nI a) (e3 : s (15 + 32 * k) = nI p) : sgK s k (lN V) = lN (6 * (2 * (V * 2001 + w) + a) + p) := by
  unfold sgK
  rw [e1, e2, e3, lI_t, lI_t, lI_t, zI_t (by omega) (by omega), nI_toInt (by omega), nI_toInt (by omega), lI_n, lI_n, show (6 : Int64) = lI 6 from rfl, show (2 : Int64) = lI 2 from rfl, show (2001 : Int64) = lI 2001 from rfl, show (-500 : Int64) = lI (-500) from rfl, lI_mul, lI_add, lI_sub, lI_mul, lI_add, lI_mul, lI_add]
  exact congrArg lI (by omega)
theorem kyF_n (hV : V < 2 ^ 40) (hw : w ≤ 2000) (ha : a ≤ 1) (hp : p ≤ 5) (e1 : s (106 + 7 * k) = zI ((w : Int) - 500)) (e2 : s (14 + 32 * k) = nI a) (e3 : s (15 + 32 * k) = nI p) : kyF s k (lN V) = lN (8 * (2 * (V * 2048 + w) + a) + p) := by
  have f1 : (s (106 + 7 * k) - -500).toInt64 = lN w := by
    rw [e1, show (-500 : Int32) = zI (-500) from rfl, zI_sub, lI_t, zI_t (by omega) (by omega), lI_n]
    exact congrArg lI (by omega)
  have f2 : (if s (14 + 32 * k) = 0 then (0 : Int32) else 1).toInt64 = lN a := by
    have : a = 0 ∨ a = 1 := by omega
    rcases this with rfl | rfl
    · rw [if_pos (by rw [e2]; rfl)]; rfl
    · rw [if_neg (by rw [e2]; decide)]; rfl
  unfold kyF
  rw [f1, f2, e3, nI_l (by omega), show (11 : Int32) = nI 11 from rfl, show ((1 : Int32).toInt64 &&& 63) = ((nI 1).toInt64 &&& 63) from rfl, show ((3 : Int32).toInt64 &&& 63) = ((nI 3).toInt64 &&& 63) from rfl, wb_shl _ (by decide), g_or (k := 11) (p := 2 ^ 11) rfl (by omega) (by omega), wb_shl _ (by decide), g_or (k := 1) (p := 2 ^ 1) rfl (by omega) (by omega), wb_shl _ (by decide), g_or (k := 3) (p := 2 ^ 3) rfl (by omega) (by omega)]
  exact congrArg lN (by omega)
def wN (s : Nat → Int32) (k : Nat) : Nat := ((s (106 + 7 * k)).toInt + 500).toNat
def aN (s : Nat → Int32) (k : Nat) : Nat := (s (14 + 32 * k)).toInt.toNat
def pN (s : Nat → Int32) (k : Nat) : Nat := (s (15 + 32 * k)).toInt.toNat
theorem Wf.sg (W : Wf s) (hk : k < 3) : wN s k ≤ 2000 ∧ aN s k ≤ 1 ∧ pN s k ≤ 5 ∧ s (106 + 7 * k) = zI ((wN s k : Int) - 500) ∧ s (14 + 32 * k) = nI (aN s k) ∧ s (15 + 32 * k) = nI (pN s k) := by
  have z1 := isIn_z.mp (W.wm hk)
  have h2 := W.S hk (i := 4) (by decide)
  have h3 := W.S hk (i := 5) (by decide)
  rw [show 10 + 32 * k + 4 = 14 + 32 * k by omega] at h2
  rw [show 10 + 32 * k + 5 = 15 + 32 * k by omega] at h3
  obtain ⟨x, hx, ex⟩ := isIn0 (B := 1) rfl h2
  obtain ⟨y, hy, ey⟩ := isIn0 (B := 5) rfl h3
  have c1 : (-500 : Int32).toInt = -500 := rfl
  have c2 : (1500 : Int32).toInt = 1500 := rfl
  have ax : aN s k = x := by unfold aN; rw [ex, nI_toInt (by omega)]; rfl
  have py : pN s k = y := by unfold pN; rw [ey, nI_toInt (by omega)]; rfl
  have ww : (wN s k : Int) = (s (106 + 7 * k)).toInt + 500 := Int.toNat_of_nonneg (by omega)
  refine ⟨by omega, by omega, by omega, ?_, by rw [ax]; exact ex, by rw [py]; exact ey⟩
  rw [ww, Int.add_sub_cancel]
  exact zI_of _
def kN (s : Nat → Int32) (k V : Nat) : Nat := 8 * (2 * (V * 2048 + wN s k) + aN s k) + pN s k
def gN (s : Nat → Int32) (k V : Nat) : Nat := 6 * (2 * (V * 2001 + wN s k) + aN s k) + pN s k
theorem Wf.kb (W : Wf s) (hk : k < 3) {m : Nat} (h : V < m) : kN s k V < m * 32768 ∧ gN s k V < m * 32768 := by
  obtain ⟨h1, h2, h3, -⟩ := W.sg hk
  unfold kN gN
  omega
theorem Wf.ky (W : Wf s) : kyS s = lN (kN s 2 (kN s 1 (kN s 0 0))) := by
  obtain ⟨a1, a2, a3, a4, a5, a6⟩ := W.sg (k := 0) (by decide)
  obtain ⟨b1, b2, b3, b4, b5, b6⟩ := W.sg (k := 1) (by decide)
  obtain ⟨c1, c2, c3, c4, c5, c6⟩ := W.sg (k := 2) (by decide)
  have x0 := (W.kb (k := 0) (by decide) (V := 0) (m := 1) (by decide)).1
  have x1 := (W.kb (k := 1) (by decide) x0).1
  unfold kyS
  rw [show (0 : Int64) = lN 0 from rfl, kyF_n (V := 0) (by omega) a1 a2 a3 a4 a5 a6]
  have y0 : kyF s 1 (lN (kN s 0 0)) = lN (kN s 1 (kN s 0 0)) := kyF_n (by omega) b1 b2 b3 b4 b5 b6
  have y1 : kyF s 2 (lN (kN s 1 (kN s 0 0))) = lN (kN s 2 (kN s 1 (kN s 0 0))) := kyF_n (by omega) c1 c2 c3 c4 c5 c6
  rw [← y1, ← y0]
  rfl
theorem Wf.sgn (W : Wf s) : sgS s = lN (gN s 2 (gN s 1 (gN s 0 0))) := by
  obtain ⟨a1, a2, a3, a4, a5, a6⟩ := W.sg (k := 0) (by decide)
  obtain ⟨b1, b2, b3, b4, b5, b6⟩ := W.sg (k := 1) (by decide)
  obtain ⟨c1, c2, c3, c4, c5, c6⟩ := W.sg (k := 2) (by decide)
  unfold sgS
  rw [show (0 : Int64) = lN 0 from rfl, sgK_n (V := 0) a1 a2 a3 a4 a5 a6]
  have y0 : sgK s 1 (lN (gN s 0 0)) = lN (gN s 1 (gN s 0 0)) := sgK_n b1 b2 b3 b4 b5 b6
  have y1 : sgK s 2 (lN (gN s 1 (gN s 0 0))) = lN (gN s 2 (gN s 1 (gN s 0 0))) := sgK_n c1 c2 c3 c4 c5 c6
  rw [← y1, ← y0]
  rfl
end
/-- the same state of the loop -/
def SgE (s t : Nat → Int32) : Prop := ∀ k, k < 3 → wN s k = wN t k ∧ aN s k = aN t k ∧ pN s k = pN t k
section
variable {s t : Nat → Int32} {k V U : Nat}
theorem kN_e (W : Wf s) (W' : Wf t) (hk : k < 3) (h : kN s k V = kN t k U) : V = U ∧ wN s k = wN t k ∧ aN s k = aN t k ∧ pN s k = pN t k := by
  obtain ⟨h1, h2, h3, -⟩ := W.sg hk
  obtain ⟨h4, h5, h6, -⟩ := W'.sg hk
  unfold kN at h
  omega
theorem gN_e (W : Wf s) (W' : Wf t) (hk : k < 3) (h : gN s k V = gN t k U) : V = U ∧ wN s k = wN t k ∧ aN s k = aN t k ∧ pN s k = pN t k := by
  obtain ⟨h1, h2, h3, -⟩ := W.sg hk
  obtain ⟨h4, h5, h6, -⟩ := W'.sg hk
  unfold gN at h
  omega
theorem ky_iff (W : Wf s) (W' : Wf t) : kyS s = kyS t ↔ SgE s t := by
  have x0 := W.kb (k := 0) (by decide) (V := 0) (m := 1) (by decide)
  have x1 := W.kb (k := 1) (by decide) x0.1
  have x2 := W.kb (k := 2) (by decide) x1.1
  have y0 := W'.kb (k := 0) (by decide) (V := 0) (m := 1) (by decide)
  have y1 := W'.kb (k := 1) (by decide) y0.1
  have y2 := W'.kb (k := 2) (by decide) y1.1
  rw [W.ky, W'.ky, pk_lEQ (by omega) (by omega)]
  refine ⟨fun h => ?_, fun h => ?_⟩
  · obtain ⟨e2, f2⟩ := kN_e W W' (by decide) h
    obtain ⟨e1, f1⟩ := kN_e W W' (by decide) e2
    obtain ⟨-, f0⟩ := kN_e W W' (by decide) e1
    intro k hk
    rcases three hk with rfl | rfl | rfl
    · exact f0
    · exact f1
    · exact f2
  · have h0 := h 0 (by decide)
    have h1 := h 1 (by decide)
    have h2 := h 2 (by decide)
    unfold kN
    rw [h0.1, h0.2.1, h0.2.2, h1.1, h1.2.1, h1.2.2, h2.1, h2.2.1, h2.2.2]
theorem sg_iff (W : Wf s) (W' : Wf t) : sgS s = sgS t ↔ SgE s t := by
  have x0 := W.kb (k := 0) (by decide) (V := 0) (m := 1) (by decide)
  have x1 := W.kb (k := 1) (by decide) x0.2
  have x2 := W.kb (k := 2) (by decide) x1.2
  have y0 := W'.kb (k := 0) (by decide) (V := 0) (m := 1) (by decide)
  have y1 := W'.kb (k := 1) (by decide) y0.2
  have y2 := W'.kb (k := 2) (by decide) y1.2
  rw [W.sgn, W'.sgn, pk_lEQ (by omega) (by omega)]
  refine ⟨fun h => ?_, fun h => ?_⟩
  · obtain ⟨e2, f2⟩ := gN_e W W' (by decide) h
    obtain ⟨e1, f1⟩ := gN_e W W' (by decide) e2
    obtain ⟨-, f0⟩ := gN_e W W' (by decide) e1
    intro k hk
    rcases three hk with rfl | rfl | rfl
    · exact f0
    · exact f1
    · exact f2
  · have h0 := h 0 (by decide)
    have h1 := h 1 (by decide)
    have h2 := h 2 (by decide)
    unfold gN
    rw [h0.1, h0.2.1, h0.2.2, h1.1, h1.2.1, h1.2.2, h2.1, h2.2.1, h2.2.2]
end
