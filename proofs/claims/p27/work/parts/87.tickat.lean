/-! a tick, place by place: the class's and the reference's -/
theorem roomT_cong {s t : Nat → Int32} {k : Nat} {w : Int32} (h : ∀ j, 106 + 7 * k < j → j < 113 + 7 * k → s j = t j) (h2 : s (17 + 32 * k) = t (17 + 32 * k)) (h3 : s (14 + 32 * k) = t (14 + 32 * k)) : roomT s k w = roomT t k w := by
  unfold roomT
  rw [h (107 + 7 * k) (by omega) (by omega), h (108 + 7 * k) (by omega) (by omega), h (109 + 7 * k) (by omega) (by omega), h (110 + 7 * k) (by omega) (by omega), h (111 + 7 * k) (by omega) (by omega), h (112 + 7 * k) (by omega) (by omega), h2, h3]
theorem roomM_cong {s t : Nat → Int32} {k : Nat} {w : Int32} {fi : Bool} (h : ∀ j, 106 + 7 * k < j → j < 113 + 7 * k → s j = t j) (h2 : s (17 + 32 * k) = t (17 + 32 * k)) (h3 : s (14 + 32 * k) = t (14 + 32 * k)) : roomM s k w fi = roomM t k w fi := by
  unfold roomM
  rw [h (107 + 7 * k) (by omega) (by omega), h (108 + 7 * k) (by omega) (by omega), h (109 + 7 * k) (by omega) (by omega), h (110 + 7 * k) (by omega) (by omega), h (111 + 7 * k) (by omega) (by omega), h (112 + 7 * k) (by omega) (by omega), h2, h3]
def chK (s r : Nat → Int32) (k : Nat) : Bool := chB (s (11 + 32 * k)) (s (12 + 32 * k)) (s (13 + 32 * k)) (s (15 + 32 * k)) (s (14 + 32 * k)) (r k * (wtc s k - 200))
def mvK (s r : Nat → Int32) (un : Int32) (k : Nat) : Nat → Int32 := mvT (fun i => s (10 + 32 * k + i)) un (s 7) (r k * (wtc s k - 200))
section
variable {s r v : Nat → Int32} {k i j : Nat} {un : Int32} {fi : Bool}
theorem stR_o (h : j < 106 + 7 * k ∨ 113 + 7 * k ≤ j) : stR s v k j = s j := by
  unfold stR
  rw [ovr_out (by omega)]
theorem stM_o (h : j < 10 + 32 * k ∨ 18 + 32 * k ≤ j) : stM s r k j = s j := by
  unfold stM
  rw [ovr_out (by omega)]
theorem stT_o (h : j < 10 + 32 * k ∨ 18 + 32 * k ≤ j) (h2 : j < 106 + 7 * k ∨ 113 + 7 * k ≤ j) : stT s r v k j = s j := by
  unfold stT
  rw [stM_o h, stR_o h2]
theorem stT_r (hk : k < 3) (hi : i < 7) : stT s r v k (106 + 7 * k + i) = roomT s k (v k) i := by
  unfold stT
  rw [stM_o (by omega)]
  unfold stR
  exact ovr_in hi
theorem stR_w : stR s v k (106 + 7 * k) = v k := ovr_in (s := s) (f := roomT s k (v k)) (lo := 106 + 7 * k) (n := 7) (i := 0) (by decide)
theorem stT_t (hk : k < 3) (hi : i < 8) : stT s r v k (10 + 32 * k + i) = mvT (fun i => s (10 + 32 * k + i)) (s 6) (s 7) (r k * (v k - 200)) i := by
  unfold stT stM
  rw [ovr_in hi, stR_o (j := 6) (by omega), stR_o (j := 7) (by omega), stR_w]
  exact mvT_cong (fun i hi => stR_o (by omega)) i hi
theorem three (hk : k < 3) : k = 0 ∨ k = 1 ∨ k = 2 := by omega
theorem tk3_r (hk : k < 3) (hi : i < 7) : tk3 s r v (106 + 7 * k + i) = roomT s k (v k) i := by
  unfold tk3
  rcases three hk with rfl | rfl | rfl
  · rw [stT_o (by omega) (by omega), stT_o (by omega) (by omega), stT_r (by decide) hi]
  · rw [stT_o (by omega) (by omega), stT_r (by decide) hi]
    exact congrFun (roomT_cong (fun j h1 h2 => stT_o (by omega) (by omega)) (stT_o (by omega) (by omega)) (stT_o (by omega) (by omega))) i
  · rw [stT_r (by decide) hi]
    exact congrFun (roomT_cong (fun j h1 h2 => (stT_o (by omega) (by omega)).trans (stT_o (by omega) (by omega))) ((stT_o (by omega) (by omega)).trans (stT_o (by omega) (by omega))) ((stT_o (by omega) (by omega)).trans (stT_o (by omega) (by omega)))) i
theorem mvT_c2 {t t' : Nat → Int32} {u u' y y' b b' : Int32} (h : ∀ i, i < 8 → t i = t' i) (h1 : u = u') (h2 : y = y') (h3 : b = b') (hi : i < 8) : mvT t u y b i = mvT t' u' y' b' i := by
  rw [h1, h2, h3]
  exact mvT_cong h i hi
theorem tk3_t (hk : k < 3) (hi : i < 8) : tk3 s r v (10 + 32 * k + i) = mvT (fun i => s (10 + 32 * k + i)) (s 6) (s 7) (r k * (v k - 200)) i := by
  unfold tk3
  rcases three hk with rfl | rfl | rfl
  · rw [stT_o (by omega) (by omega), stT_o (by omega) (by omega), stT_t (by decide) hi]
  · rw [stT_o (by omega) (by omega), stT_t (by decide) hi]
    exact mvT_c2 (fun i hi => stT_o (by omega) (by omega)) (stT_o (by omega) (by omega)) (stT_o (by omega) (by omega)) rfl hi
  · rw [stT_t (by decide) hi]
    exact mvT_c2 (fun i hi => (stT_o (by omega) (by omega)).trans (stT_o (by omega) (by omega))) ((stT_o (by omega) (by omega)).trans (stT_o (by omega) (by omega))) ((stT_o (by omega) (by omega)).trans (stT_o (by omega) (by omega))) rfl hi
theorem tk3_o (h : ∀ k, k < 3 → (j < 10 + 32 * k ∨ 18 + 32 * k ≤ j) ∧ (j < 106 + 7 * k ∨ 113 + 7 * k ≤ j)) : tk3 s r v j = s j := by
  unfold tk3
  have a0 := h 0 (by decide)
  have a1 := h 1 (by decide)
  have a2 := h 2 (by decide)
  rw [stT_o a2.1 a2.2, stT_o a1.1 a1.2, stT_o a0.1 a0.2]
theorem tkS_n (h : ¬ j = 9) : tkS s r j = tk3 s r (wtc s) j := by
  unfold tkS
  by_cases q : j = 8
  · subst q
    exact ovr_in (s := tk3 s r (wtc s)) (lo := 8) (n := 2) (i := 0) (by decide)
  · rw [ovr_out (by omega)]
theorem tsR (hk : k < 3) (hi : i < 7) : tkS s r (106 + 7 * k + i) = roomT s k (wtc s k) i := by rw [tkS_n (by omega), tk3_r hk hi]
theorem tsT (hk : k < 3) (hi : i < 8) : tkS s r (10 + 32 * k + i) = mvK s r (s 6) k i := by rw [tkS_n (by omega), tk3_t hk hi]; rfl
theorem ts9 : tkS s r 9 = s 9 + 1 := by
  unfold tkS
  have e : tk3 s r (wtc s) 9 = s 9 := tk3_o (fun k hk => ⟨by omega, by omega⟩)
  rw [← e]
  exact ovr_in (s := tk3 s r (wtc s)) (lo := 8) (n := 2) (i := 1) (by decide)
theorem tsO (h9 : ¬ j = 9) (h : ∀ k, k < 3 → (j < 10 + 32 * k ∨ 18 + 32 * k ≤ j) ∧ (j < 106 + 7 * k ∨ 113 + 7 * k ≤ j)) : tkS s r j = s j := by rw [tkS_n h9, tk3_o h]
theorem stN_e {s' : Nat → Int32} (hk : k < 3) (h : ∀ j, 10 + 32 * k ≤ j → j < 18 + 32 * k → s' j = s j) (hv : v k = wtc s k) : stN s' r v k = b2i (chK s r k) := by
  unfold stN stC chK
  rw [stR_w, hv, stR_o (j := 11 + 32 * k) (by omega), stR_o (j := 12 + 32 * k) (by omega), stR_o (j := 13 + 32 * k) (by omega), stR_o (j := 14 + 32 * k) (by omega), stR_o (j := 15 + 32 * k) (by omega), h _ (by omega) (by omega), h _ (by omega) (by omega), h _ (by omega) (by omega), h _ (by omega) (by omega), h _ (by omega) (by omega)]
  cases chB (s (11 + 32 * k)) (s (12 + 32 * k)) (s (13 + 32 * k)) (s (15 + 32 * k)) (s (14 + 32 * k)) (r k * (wtc s k - 200)) <;> rfl
theorem tsN : tkN s r = 0 + b2i (chK s r 0) + b2i (chK s r 1) + b2i (chK s r 2) := by
  unfold tkN
  rw [stN_e (k := 0) (by decide) (fun _ _ _ => rfl) rfl, stN_e (k := 1) (by decide) (fun j h1 h2 => stT_o (by omega) (by omega)) rfl, stN_e (k := 2) (by decide) (fun j h1 h2 => (stT_o (by omega) (by omega)).trans (stT_o (by omega) (by omega))) rfl]
theorem tkRM_r (hk : k < 3) (hi : i < 7) : tkRM s v fi (106 + 7 * k + i) = roomM s k (v k) fi i := by
  unfold tkRM
  rcases three hk with rfl | rfl | rfl
  · rw [stRM_o (by omega), stRM_o (by omega)]
    unfold stRM
    exact ovr_in hi
  · rw [stRM_o (by omega)]
    unfold stRM
    rw [ovr_in hi]
    exact congrFun (roomM_cong (fun j h1 h2 => ovr_out (by omega)) (ovr_out (by omega)) (ovr_out (by omega))) i
  · unfold stRM
    rw [ovr_in hi]
    exact congrFun (roomM_cong (fun j h1 h2 => (ovr_out (by omega)).trans (ovr_out (by omega))) ((ovr_out (by omega)).trans (ovr_out (by omega))) ((ovr_out (by omega)).trans (ovr_out (by omega)))) i
theorem tkP_r (hk : k < 3) (hi : i < 7) : tkP s (106 + 7 * k + i) = roomM s k (wtc s k) (decide (s 9 = 0)) i := by
  unfold tkP tk9
  rw [ovr_out (by omega), tkRM_r hk hi]
theorem tkP_w (hk : k < 3) : tkP s (106 + 7 * k) = wtc s k := tkP_r hk (i := 0) (by decide)
theorem tkP_9 : tkP s 9 = s 9 + 1 := by
  unfold tkP tk9
  have e : tkRM s (wtc s) (decide (s 9 = 0)) 9 = s 9 := by
    unfold tkRM
    rw [stRM_o (by omega), stRM_o (by omega), stRM_o (by omega)]
  rw [← e]
  exact ovr_in (lo := 9) (n := 1) (i := 0) (by decide)
theorem stPM_t (hi : i < 8) : stPM s r un k (10 + 32 * k + i) = mvT (fun i => s (10 + 32 * k + i)) un (s 7) (r k * (s (106 + 7 * k) - 200)) i := by
  unfold stPM plS
  rw [ovr_in hi]
theorem tmR (hk : k < 3) (hi : i < 7) : tkM s r un (106 + 7 * k + i) = roomM s k (wtc s k) (decide (s 9 = 0)) i := by
  unfold tkM
  rw [stPM_o (by omega), stPM_o (by omega), stPM_o (by omega), tkP_r hk hi]
theorem tmT (hk : k < 3) (hi : i < 8) : tkM s r un (10 + 32 * k + i) = mvK s r un k i := by
  unfold tkM mvK
  rcases three hk with rfl | rfl | rfl
  · rw [stPM_o (by omega), stPM_o (by omega), stPM_t hi]
    exact mvT_c2 (fun i hi => tkP_s (by omega) (by omega)) rfl (tkP_s (by omega) (by omega)) (by rw [tkP_w (by decide)]) hi
  · rw [stPM_o (by omega), stPM_t hi]
    exact mvT_c2 (fun i hi => (stPM_o (by omega)).trans (tkP_s (by omega) (by omega))) rfl ((stPM_o (by omega)).trans (tkP_s (by omega) (by omega))) (by rw [stPM_o (by omega), tkP_w (by decide)]) hi
  · rw [stPM_t hi]
    exact mvT_c2 (fun i hi => (stPM_o (by omega)).trans ((stPM_o (by omega)).trans (tkP_s (by omega) (by omega)))) rfl ((stPM_o (by omega)).trans ((stPM_o (by omega)).trans (tkP_s (by omega) (by omega)))) (by rw [stPM_o (by omega), stPM_o (by omega), tkP_w (by decide)]) hi
theorem tm9 : tkM s r un 9 = s 9 + 1 := by
  unfold tkM
  rw [stPM_o (by omega), stPM_o (by omega), stPM_o (by omega), tkP_9]
theorem tmO (hj : j < 127) (h9 : ¬ j = 9) (h : ∀ k, k < 3 → (j < 10 + 32 * k ∨ 18 + 32 * k ≤ j) ∧ (j < 106 + 7 * k ∨ 113 + 7 * k ≤ j)) : tkM s r un j = s j := by
  have a0 := h 0 (by decide)
  have a1 := h 1 (by decide)
  have a2 := h 2 (by decide)
  unfold tkM
  rw [stPM_o a2.1, stPM_o a1.1, stPM_o a0.1, tkP_s h9 (by omega)]
theorem stPC_e {s' : Nat → Int32} (hk : k < 3) (h : ∀ j, 10 + 32 * k ≤ j → j < 18 + 32 * k → s' j = s j) (hv : s' (106 + 7 * k) = wtc s k) : stPC s' r k = b2i (chK s r k) := by
  unfold stPC chK
  rw [hv, h _ (by omega) (by omega), h _ (by omega) (by omega), h _ (by omega) (by omega), h _ (by omega) (by omega), h _ (by omega) (by omega)]
theorem tmN : tkMN s r un = 0 + b2i (chK s r 0) + b2i (chK s r 1) + b2i (chK s r 2) := by
  unfold tkMN
  rw [stPC_e (s := s) (k := 0) (by decide) (fun j h1 h2 => tkP_s (by omega) (by omega)) (tkP_w (by decide)), stPC_e (s := s) (k := 1) (by decide) (fun j h1 h2 => (stPM_o (by omega)).trans (tkP_s (by omega) (by omega))) ((stPM_o (by omega)).trans (tkP_w (by decide))), stPC_e (s := s) (k := 2) (by decide) (fun j h1 h2 => (stPM_o (by omega)).trans ((stPM_o (by omega)).trans (tkP_s (by omega) (by omega)))) ((stPM_o (by omega)).trans ((stPM_o (by omega)).trans (tkP_w (by decide))))]
end

