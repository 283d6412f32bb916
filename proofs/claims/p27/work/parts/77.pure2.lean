/-! bits (the kit's rows to paste), whole numbers as Int32s -/
def bt (x : Int32) (i : Nat) : Bool := x.toBitVec.getLsbD i
def zI (z : Int) : Int32 := Int32.ofInt z
theorem zI_n (n : Nat) : nI n = zI n := rfl
theorem zI_add (x y : Int) : zI x + zI y = zI (x + y) := (Int32.ofInt_add x y).symm
theorem zI_sub (x y : Int) : zI x - zI y = zI (x - y) := (Int32.ofInt_sub x y).symm
theorem zI_mul (x y : Int) : zI x * zI y = zI (x * y) := (Int32.ofInt_mul x y).symm
theorem zI_t {z : Int} (h1 : -2147483648 ≤ z) (h2 : z < 2147483648) : (zI z).toInt = z := by
  unfold zI
  rw [Int32.toInt_ofInt]
  have e : Int32.size = 4294967296 := rfl
  rw [e]
  exact Int.bmod_eq_of_le (by omega) (by omega)
theorem zI_of (x : Int32) : x = zI x.toInt := (Int32.ofInt_toInt x).symm
theorem zI_le {x y : Int} (hx : -2147483648 ≤ x ∧ x < 2147483648) (hy : -2147483648 ≤ y ∧ y < 2147483648) : (zI x ≤ zI y) = (x ≤ y) := by rw [Int32.le_iff_toInt_le, zI_t hx.1 hx.2, zI_t hy.1 hy.2]
theorem zI_lt {x y : Int} (hx : -2147483648 ≤ x ∧ x < 2147483648) (hy : -2147483648 ≤ y ∧ y < 2147483648) : (zI x < zI y) = (x < y) := by rw [Int32.lt_iff_toInt_lt, zI_t hx.1 hx.2, zI_t hy.1 hy.2]
theorem zI_eq {x y : Int} (hx : -2147483648 ≤ x ∧ x < 2147483648) (hy : -2147483648 ≤ y ∧ y < 2147483648) : (zI x = zI y) = (x = y) := propext ⟨fun h => by rw [← zI_t hx.1 hx.2, h, zI_t hy.1 hy.2], fun h => by rw [h]⟩
/-! what so many parts of a length in all can bend by -/
def dz (Nf : Nat → Nat) (p : Nat) : Int := (Nf (p / 6) : Int) - (Nf (p % 6) : Int)
def canZ (Nf : Nat → Nat) : Nat → Int → Int → Prop
  | 0, T, b => T = 0 ∧ b = 0
  | P + 1, T, b => ∃ l p : Nat, 1 ≤ l ∧ l ≤ 9 ∧ p < 36 ∧ canZ Nf P (T - l) (b - l * dz Nf p)
def Nm (Nf : Nat → Nat) : Prop := ∀ j, j < 6 → Nf j ≤ 30
theorem ld_bd {l : Nat} {x : Int} (hl : l ≤ 9) (h : -30 ≤ x ∧ x ≤ 30) : -270 ≤ l * x ∧ l * x ≤ 270 := by
  have hl9 : l = 0 ∨ l = 1 ∨ l = 2 ∨ l = 3 ∨ l = 4 ∨ l = 5 ∨ l = 6 ∨ l = 7 ∨ l = 8 ∨ l = 9 := by omega
  rcases hl9 with rfl | rfl | rfl | rfl | rfl | rfl | rfl | rfl | rfl | rfl <;> omega
def Lens (Nf : Nat → Nat) (L : Int32) (P : Nat) (b : Int) : Prop := ∀ T : Nat, T < 32 → (bt L T = true ↔ canZ Nf P T b)
/-! StackFinder: difference, lengthsByOne, lengthsByTwo -/
def eSF (nx : Nat) (tm : Int32) (pp : Nat) (pc : Int32) (ox tx : Nat) : va_E := .inr (3, [.ref nx, .int tm, .ref pp, .int pc, .ref ox, .ref tx])
def NumA (ca : Nat → ClassId) (h : PH) (nx : Nat) (Nf : Nat → Nat) : Prop := ∃ nf, h nx = some (.inl (ca 0, 6, .inl nf)) ∧ ∀ j, j < 6 → nf j = nI (Nf j)
def PO (Nf : Nat → Nat) (pf : Nat → Int32) (pc : Nat) (pr : Nat → Nat) : Prop := pc ≤ 36 ∧ (∀ i, i < pc → pf i = nI (pr i) ∧ pr i < 36) ∧ (∀ i j, i < j → j < pc → pr i < pr j) ∧ (∀ p, p < 36 → ∃ i, i < pc ∧ dz Nf (pr i) = dz Nf p ∧ pr i ≤ p)
def PairsA (ca : Nat → ClassId) (h : PH) (pp pc : Nat) (Nf pr : Nat → Nat) : Prop := ∃ pf, h pp = some (.inl (ca 0, 36, .inl pf)) ∧ PO Nf pf pc pr
def OneA (ca : Nat → ClassId) (h : PH) (ox : Nat) (Nf : Nat → Nat) : Prop := ∃ bo, h ox = some (.inl (ca 0, 271, .inl bo)) ∧ ∀ z : Nat, z ≤ 270 → Lens Nf (bo z) 1 z
def TwoA (ca : Nat → ClassId) (h : PH) (tx : Nat) (Nf : Nat → Nat) : Prop := ∃ bo, h tx = some (.inl (ca 0, 541, .inl bo)) ∧ ∀ z : Nat, z ≤ 540 → Lens Nf (bo z) 2 z
/-! StackFinder: lengthsByThree, lengthsFor, fewestParts, leastLength -/
def SFc (ca : Nat → ClassId) (h : PH) (x5 nx : Nat) (tm : Int32) (pp pc ox tx : Nat) (Nf pr : Nat → Nat) : Prop := h x5 = some (eSF nx tm pp (nI pc) ox tx) ∧ NumA ca h nx Nf ∧ PairsA ca h pp pc Nf pr ∧ OneA ca h ox Nf ∧ TwoA ca h tx Nf ∧ Nm Nf
/-! StackFinder: takeNumbers; SnapStacks: stack -/
def DS (x5 nx pp ox tx : Nat) : Prop := ¬ x5 = nx ∧ ¬ x5 = pp ∧ ¬ x5 = ox ∧ ¬ x5 = tx ∧ ¬ nx = pp ∧ ¬ nx = ox ∧ ¬ nx = tx ∧ ¬ pp = ox ∧ ¬ pp = tx ∧ ¬ ox = tx
def SFs (ca : Nat → ClassId) (h : PH) (x5 nx pp ox tx : Nat) : Prop := ∃ tm pc Nf pr, (∃ nf, h nx = some (.inl (ca 0, 6, .inl nf)) ∧ ∀ j, j < 6 → nf j = nI (Nf j)) ∧ (∃ pf, h pp = some (.inl (ca 0, 36, .inl pf))) ∧ (∃ bo, h ox = some (.inl (ca 0, 271, .inl bo))) ∧ (∃ b2, h tx = some (.inl (ca 0, 541, .inl b2))) ∧ h x5 = some (eSF nx tm pp (nI pc) ox tx) ∧ (tm = 0 ∨ (tm = 1 ∧ SFc ca h x5 nx tm pp pc ox tx Nf pr))
/-! a row of least parts is there -/
/-! the reference's constructor -/
def s0R : Nat → Int32 := fun j => if j < 6 then 5 * nI j else if j = 7 then 50 else if j = 8 then 100 else if j = 11 ∨ j = 43 ∨ j = 75 then 1000 else if j = 12 ∨ j = 44 ∨ j = 76 then 3000 else if j = 106 ∨ j = 113 ∨ j = 120 then 200 else if j = 108 ∨ j = 115 ∨ j = 122 then 20 else 0
