/-! SnapStacksModel: a tick -/
def Eq127 (s t : Nat → Int32) : Prop := ∀ j, j < 127 → s j = t j
theorem Eq127.rf {s : Nat → Int32} : Eq127 s s := fun _ _ => rfl
theorem Eq127.tr {s t u : Nat → Int32} (a : Eq127 s t) (b : Eq127 t u) : Eq127 s u := fun j hj => (a j hj).trans (b j hj)
def mxM (fi : Bool) (g v : Int32) : Int32 := if fi = false then (if v ≤ g then g else v) else v
def mnM (fi : Bool) (g v : Int32) : Int32 := if fi = false then (if g ≤ v then g else v) else v
def roomM (s : Nat → Int32) (k : Nat) (v : Int32) (fi : Bool) : Nat → Int32 := mk7 v (s (107 + 7 * k)) (s (108 + 7 * k)) (s (109 + 7 * k)) (s (110 + 7 * k) + (if closedF (s (17 + 32 * k)) (s (14 + 32 * k)) = false then 0 else 1)) (mxM fi (s (111 + 7 * k)) v) (mnM fi (s (112 + 7 * k)) v)
def stRM (s : Nat → Int32) (v : Nat → Int32) (fi : Bool) (k : Nat) : Nat → Int32 := ovr s (106 + 7 * k) 7 (roomM s k (v k) fi)
def tkRM (s v : Nat → Int32) (fi : Bool) : Nat → Int32 := stRM (stRM (stRM s v fi 0) v fi 1) v fi 2
def tk9 (s : Nat → Int32) : Nat → Int32 := ovr s 9 1 (fun _ => s 9 + 1)
def stPM (s r : Nat → Int32) (un : Int32) (k : Nat) : Nat → Int32 := plS s k un (r k * (s (106 + 7 * k) - 200))
def stPC (s r : Nat → Int32) (k : Nat) : Int32 := b2i (chB (s (11 + 32 * k)) (s (12 + 32 * k)) (s (13 + 32 * k)) (s (15 + 32 * k)) (s (14 + 32 * k)) (r k * (s (106 + 7 * k) - 200)))
def tkP (s : Nat → Int32) : Nat → Int32 := tk9 (tkRM s (wtc s) (decide (s 9 = 0)))
def tkM (s r : Nat → Int32) (un : Int32) : Nat → Int32 := stPM (stPM (stPM (tkP s) r un 0) r un 1) r un 2
def tkMN (s r : Nat → Int32) (un : Int32) : Int32 := 0 + stPC (tkP s) r 0 + stPC (stPM (tkP s) r un 0) r 1 + stPC (stPM (stPM (tkP s) r un 0) r un 1) r 2
theorem ovr_cong {s t f g : Nat → Int32} {lo n : Nat} (h : Eq127 s t) (hf : ∀ i, i < n → f i = g i) : Eq127 (ovr s lo n f) (ovr t lo n g) := by
  intro j hj
  unfold ovr
  by_cases q : lo ≤ j ∧ j < lo + n
  · rw [if_pos q, if_pos q]; exact hf _ (by omega)
  · rw [if_neg q, if_neg q]; exact h j hj
theorem mvT_cong {t t' : Nat → Int32} {un by' bend : Int32} (h : ∀ i, i < 8 → t i = t' i) : ∀ i, i < 8 → mvT t un by' bend i = mvT t' un by' bend i := by
  intro i hi
  unfold mvT mvU
  rw [h 1 (by decide), h 2 (by decide), h 3 (by decide), h 4 (by decide), h 5 (by decide), h 6 (by decide), h i hi]
theorem plS_cong {s t : Nat → Int32} {k : Nat} {un bend : Int32} (hk : k < 3) (h : Eq127 s t) : Eq127 (plS s k un bend) (plS t k un bend) := by
  unfold plS
  rw [h 7 (by decide)]
  exact ovr_cong h (mvT_cong (fun i hi => h _ (by omega)))
theorem stPM_cong {s t r : Nat → Int32} {k : Nat} {un : Int32} (hk : k < 3) (h : Eq127 s t) : Eq127 (stPM s r un k) (stPM t r un k) := by
  unfold stPM
  rw [h (106 + 7 * k) (by omega)]
  exact plS_cong hk h
theorem stPC_cong {s t r : Nat → Int32} {k : Nat} (hk : k < 3) (h : Eq127 s t) : stPC s r k = stPC t r k := by
  unfold stPC
  rw [h (106 + 7 * k) (by omega), h (11 + 32 * k) (by omega), h (12 + 32 * k) (by omega), h (13 + 32 * k) (by omega), h (14 + 32 * k) (by omega), h (15 + 32 * k) (by omega)]
theorem seven {P : Nat → Prop} (h0 : P 0) (h1 : P 1) (h2 : P 2) (h3 : P 3) (h4 : P 4) (h5 : P 5) (h6 : P 6) : ∀ i, i < 7 → P i := by
  intro i hi
  have : i = 0 ∨ i = 1 ∨ i = 2 ∨ i = 3 ∨ i = 4 ∨ i = 5 ∨ i = 6 := by omega
  rcases this with rfl | rfl | rfl | rfl | rfl | rfl | rfl <;> assumption
theorem stRM_eq {s s' v : Nat → Int32} {fi : Bool} {k : Nat} (h : ∀ i, i < 7 → s' (106 + 7 * k + i) = roomM s k (v k) fi i) (ho : ∀ j, j < 127 → (j < 106 + 7 * k ∨ 113 + 7 * k ≤ j) → s' j = s j) : Eq127 s' (stRM s v fi k) := by
  intro j hj
  unfold stRM
  by_cases q : 106 + 7 * k ≤ j ∧ j < 106 + 7 * k + 7
  · have e : j = 106 + 7 * k + (j - (106 + 7 * k)) := by omega
    rw [e, ovr_in (by omega)]
    exact h _ (by omega)
  · rw [ovr_out (by omega)]
    exact ho j hj (by omega)
theorem stRM_cong {s t v : Nat → Int32} {fi : Bool} {k : Nat} (hk : k < 3) (h : Eq127 s t) : Eq127 (stRM s v fi k) (stRM t v fi k) := by
  unfold stRM
  refine ovr_cong h (fun i hi => ?_)
  unfold roomM
  rw [h (107 + 7 * k) (by omega), h (108 + 7 * k) (by omega), h (109 + 7 * k) (by omega), h (110 + 7 * k) (by omega), h (111 + 7 * k) (by omega), h (112 + 7 * k) (by omega), h (17 + 32 * k) (by omega), h (14 + 32 * k) (by omega)]
def sp_X8_ticks (ca : Nat → ClassId) : SPEC := fun av h post => ∃ m a st len fm at' re s r d, av = [.ref m, .int d] ∧ h m = some (eMod a st len fm at' re) ∧ h (a 0) = some (.inl (ca 0, 127, .inl s)) ∧ h (a 4) = some (.inl (ca 0, 3, .inl r)) ∧ ¬ m = a 0 ∧ ¬ a 4 = a 0 ∧ (∀ k, k < 3 → OkR s k) ∧
  ∀ s', Eq127 s' (tkM s r (if d = 0 then 0 else s 6)) → post (some (.int (tkMN s r (if d = 0 then 0 else s 6)))) (va_up h (a 0) (some (.inl (ca 0, 127, .inl s'))))
theorem tk9_eq {s t : Nat → Int32} (h : Eq127 s t) : Eq127 (upd s 9 (s 9 + 1)) (tk9 t) := by
  intro j hj
  unfold tk9
  rw [upd_app]
  by_cases q : j = 9
  · subst q
    rw [if_pos rfl, h 9 (by decide)]
    exact (ovr_in (s := t) (f := fun _ => t 9 + 1) (lo := 9) (n := 1) (i := 0) (by decide)).symm
  · rw [if_neg q, ovr_out (by omega)]
    exact h j hj
theorem tkP_s {s : Nat → Int32} {j : Nat} (h : ¬ j = 9) (h2 : j < 106 ∨ 127 ≤ j) : tkP s j = s j := by
  unfold tkP tk9 tkRM stRM
  rw [ovr_out (by omega), ovr_out (by omega), ovr_out (by omega), ovr_out (by omega)]
theorem stPM_o {s r : Nat → Int32} {un : Int32} {k j : Nat} (h : j < 10 + 32 * k ∨ 18 + 32 * k ≤ j) : stPM s r un k j = s j := by
  unfold stPM plS
  rw [ovr_out (by omega)]
