/-! SnapStacksModel: the acts' frame; metal, outside, warm, set, heat, contact, opening -/
def Eq508 (p q : Nat → Int32) : Prop := ∀ j, j < 508 → p j = q j
def RI (m : Nat) (a : Nat → Nat) : Prop := Inj a ∧ ∀ i, ¬ m = a i
def RAg (ca : Nat → ClassId) (h : PH) (m : Nat) (a : Nat → Nat) (s g p : Nat → Int32) (t : Nat) (f : Nat → Int32) (n : Nat) : Prop :=
  ∃ fm at' re bd kp ks iw ip fo, h m = some (eMod a (nI t) (nI n) fm at' re) ∧ h (a 0) = some (.inl (ca 0, 127, .inl s)) ∧ h (a 1) = some (.inl (ca 0, 127, .inl g)) ∧ h (a 2) = some (.inl (ca 0, 508, .inl p)) ∧ h (a 3) = some (.inl (ca 0, 60, .inl f)) ∧ h (a 4) = some (.inl (ca 0, 3, .inl bd)) ∧ h (a 5) = some (.inl (ca 1, 1501, .inr (.inl kp))) ∧ h (a 6) = some (.inl (ca 0, 1501, .inl ks)) ∧ h (a 7) = some (.inl (ca 2, 61, .inl iw)) ∧ h (a 8) = some (.inl (ca 2, 18377, .inl ip)) ∧ h (a 9) = some (.inl (ca 0, 9, .inl fo))
def RAt (ca : Nat → ClassId) (h : PH) (m : Nat) (a : Nat → Nat) (s p : Nat → Int32) (t : Nat) (f : Nat → Int32) (n : Nat) : Prop := ∃ g, RAg ca h m a s g p t f n
def SmR (m : Nat) (a : Nat → Nat) (h h' : PH) : Prop := ∀ x : Nat, ¬ x = m → (∀ i, i < 10 → ¬ x = a i) → h' x = h x
theorem SmR.rf {m : Nat} {a : Nat → Nat} {h : PH} : SmR m a h h := fun _ _ _ => rfl
theorem SmR.tr {m : Nat} {a : Nat → Nat} {h h1 h2 : PH} (x : SmR m a h h1) (y : SmR m a h1 h2) : SmR m a h h2 := fun b p q => (y b p q).trans (x b p q)
theorem SmR.a {m : Nat} {a : Nat → Nat} {h : PH} {i : Nat} (hi : i < 10) (e : Option va_E) : SmR m a h (va_up h (a i) e) := fun _ _ q => va_up_ne _ _ (q i hi)
theorem SmR.m {m : Nat} {a : Nat → Nat} {h : PH} (e : Option va_E) : SmR m a h (va_up h m e) := fun _ q _ => va_up_ne _ _ q
def RP (ca : Nat → ClassId) (h : PH) (m : Nat) (a : Nat → Nat) (f : Nat → Int32) (n : Nat) (post : Option Value → PH → Prop) (x : Int32) (S P : Nat → Int32) (T : Nat) : Prop := ∀ h' s' p', Eq127 s' S → Eq508 p' P → RAt ca h' m a s' p' T f n → SmR m a h h' → post (some (.int x)) h'
def actR (ca : Nat → ClassId) (h : PH) (m : Nat) (a : Nat → Nat) (s p : Nat → Int32) (t : Nat) (f : Nat → Int32) (n : Nat) (post : Option Value → PH → Prop) (x : Int32) (F : Nat → Int32) : Prop :=
  (x ≤ -10000001 → RP ca h m a f n post x s p t) ∧ (¬ x ≤ -10000001 → RP ca h m a f n post x F (pastF p s t) (pastT t))
section
variable {ca : Nat → ClassId} {h : PH} {m : Nat} {a : Nat → Nat} {s g p : Nat → Int32} {t : Nat} {f : Nat → Int32} {n : Nat} {post : Option Value → PH → Prop}
theorem RI.ne (I : RI m a) {i j : Nat} (hij : ¬ i = j) : ¬ a i = a j := fun z => hij ((I.1 i j).mp z)
theorem RI.am (I : RI m a) (i : Nat) : ¬ a i = m := fun z => I.2 i z.symm
theorem RAg.s0 (I : RI m a) (hR : RAg ca h m a s g p t f n) (s' : Nat → Int32) : RAg ca (va_up h (a 0) (some (.inl (ca 0, 127, .inl s')))) m a s' g p t f n := by
  obtain ⟨fm, at', re, bd, kp, ks, iw, ip, fo, em, e0, e1, e2, e3, e4, e5, e6, e7, e8, e9⟩ := hR
  exact ⟨fm, at', re, bd, kp, ks, iw, ip, fo, (va_up_ne _ _ (I.2 0)).trans em, va_up_self _ _ _, (va_up_ne _ _ (I.ne (by decide))).trans e1, (va_up_ne _ _ (I.ne (by decide))).trans e2, (va_up_ne _ _ (I.ne (by decide))).trans e3, (va_up_ne _ _ (I.ne (by decide))).trans e4, (va_up_ne _ _ (I.ne (by decide))).trans e5, (va_up_ne _ _ (I.ne (by decide))).trans e6, (va_up_ne _ _ (I.ne (by decide))).trans e7, (va_up_ne _ _ (I.ne (by decide))).trans e8, (va_up_ne _ _ (I.ne (by decide))).trans e9⟩
theorem RAg.g1 (I : RI m a) (hR : RAg ca h m a s g p t f n) (g' : Nat → Int32) : RAg ca (va_up h (a 1) (some (.inl (ca 0, 127, .inl g')))) m a s g' p t f n := by
  obtain ⟨fm, at', re, bd, kp, ks, iw, ip, fo, em, e0, e1, e2, e3, e4, e5, e6, e7, e8, e9⟩ := hR
  exact ⟨fm, at', re, bd, kp, ks, iw, ip, fo, (va_up_ne _ _ (I.2 1)).trans em, (va_up_ne _ _ (I.ne (by decide))).trans e0, va_up_self _ _ _, (va_up_ne _ _ (I.ne (by decide))).trans e2, (va_up_ne _ _ (I.ne (by decide))).trans e3, (va_up_ne _ _ (I.ne (by decide))).trans e4, (va_up_ne _ _ (I.ne (by decide))).trans e5, (va_up_ne _ _ (I.ne (by decide))).trans e6, (va_up_ne _ _ (I.ne (by decide))).trans e7, (va_up_ne _ _ (I.ne (by decide))).trans e8, (va_up_ne _ _ (I.ne (by decide))).trans e9⟩
theorem RAg.p2 (I : RI m a) (hR : RAg ca h m a s g p t f n) (p' : Nat → Int32) : RAg ca (va_up h (a 2) (some (.inl (ca 0, 508, .inl p')))) m a s g p' t f n := by
  obtain ⟨fm, at', re, bd, kp, ks, iw, ip, fo, em, e0, e1, e2, e3, e4, e5, e6, e7, e8, e9⟩ := hR
  exact ⟨fm, at', re, bd, kp, ks, iw, ip, fo, (va_up_ne _ _ (I.2 2)).trans em, (va_up_ne _ _ (I.ne (by decide))).trans e0, (va_up_ne _ _ (I.ne (by decide))).trans e1, va_up_self _ _ _, (va_up_ne _ _ (I.ne (by decide))).trans e3, (va_up_ne _ _ (I.ne (by decide))).trans e4, (va_up_ne _ _ (I.ne (by decide))).trans e5, (va_up_ne _ _ (I.ne (by decide))).trans e6, (va_up_ne _ _ (I.ne (by decide))).trans e7, (va_up_ne _ _ (I.ne (by decide))).trans e8, (va_up_ne _ _ (I.ne (by decide))).trans e9⟩
theorem RAg.b4 (I : RI m a) (hR : RAg ca h m a s g p t f n) (b' : Nat → Int32) : RAg ca (va_up h (a 4) (some (.inl (ca 0, 3, .inl b')))) m a s g p t f n := by
  obtain ⟨fm, at', re, bd, kp, ks, iw, ip, fo, em, e0, e1, e2, e3, e4, e5, e6, e7, e8, e9⟩ := hR
  exact ⟨fm, at', re, b', kp, ks, iw, ip, fo, (va_up_ne _ _ (I.2 4)).trans em, (va_up_ne _ _ (I.ne (by decide))).trans e0, (va_up_ne _ _ (I.ne (by decide))).trans e1, (va_up_ne _ _ (I.ne (by decide))).trans e2, (va_up_ne _ _ (I.ne (by decide))).trans e3, va_up_self _ _ _, (va_up_ne _ _ (I.ne (by decide))).trans e5, (va_up_ne _ _ (I.ne (by decide))).trans e6, (va_up_ne _ _ (I.ne (by decide))).trans e7, (va_up_ne _ _ (I.ne (by decide))).trans e8, (va_up_ne _ _ (I.ne (by decide))).trans e9⟩
theorem RAg.t3 (I : RI m a) (hR : RAg ca h m a s g p t f n) (f' : Nat → Int32) : RAg ca (va_up h (a 3) (some (.inl (ca 0, 60, .inl f')))) m a s g p t f' n := by
  obtain ⟨fm, at', re, bd, kp, ks, iw, ip, fo, em, e0, e1, e2, e3, e4, e5, e6, e7, e8, e9⟩ := hR
  exact ⟨fm, at', re, bd, kp, ks, iw, ip, fo, (va_up_ne _ _ (I.2 3)).trans em, (va_up_ne _ _ (I.ne (by decide))).trans e0, (va_up_ne _ _ (I.ne (by decide))).trans e1, (va_up_ne _ _ (I.ne (by decide))).trans e2, va_up_self _ _ _, (va_up_ne _ _ (I.ne (by decide))).trans e4, (va_up_ne _ _ (I.ne (by decide))).trans e5, (va_up_ne _ _ (I.ne (by decide))).trans e6, (va_up_ne _ _ (I.ne (by decide))).trans e7, (va_up_ne _ _ (I.ne (by decide))).trans e8, (va_up_ne _ _ (I.ne (by decide))).trans e9⟩
theorem RAg.mm (I : RI m a) (hR : RAg ca h m a s g p t f n) (t' n' : Nat) (fm' at'' re' : Int32) : RAg ca (va_up h m (some (eMod a (nI t') (nI n') fm' at'' re'))) m a s g p t' f n' := by
  obtain ⟨fm, at', re, bd, kp, ks, iw, ip, fo, em, e0, e1, e2, e3, e4, e5, e6, e7, e8, e9⟩ := hR
  exact ⟨fm', at'', re', bd, kp, ks, iw, ip, fo, va_up_self _ _ _, (va_up_ne _ _ (I.am _)).trans e0, (va_up_ne _ _ (I.am _)).trans e1, (va_up_ne _ _ (I.am _)).trans e2, (va_up_ne _ _ (I.am _)).trans e3, (va_up_ne _ _ (I.am _)).trans e4, (va_up_ne _ _ (I.am _)).trans e5, (va_up_ne _ _ (I.am _)).trans e6, (va_up_ne _ _ (I.am _)).trans e7, (va_up_ne _ _ (I.am _)).trans e8, (va_up_ne _ _ (I.am _)).trans e9⟩
theorem RAt.m8 (hR : RAt ca h m a s p t f n) : ∃ l, h m = some (.inr (8, l)) := by
  obtain ⟨g, fm, at', re, bd, kp, ks, iw, ip, fo, em, -⟩ := hR
  exact ⟨_, em⟩
theorem begins_of (I : RI m a) (hR : RAt ca h m a s p t f n) (hp : ∀ h1 g, Eq127 g s → RAg ca h1 m a s g p t f n → SmR m a h h1 → post none h1) : sp_X8_begins ca [.ref m] h post := by
  obtain ⟨g, hR⟩ := hR
  have hR' := hR
  obtain ⟨fm, at', re, bd, kp, ks, iw, ip, fo, em, e0, e1, -⟩ := hR
  exact ⟨m, a 0, a 1, _, s, g, rfl, em, e0, e1, I.ne (by decide), I.2 1, hp _ _ (fun j hj => flo_in hj) (hR'.g1 I _) (SmR.a (by decide) _)⟩
theorem pastF_cong {q : Nat → Int32} (hg : Eq127 g q) (ht : t ≤ 4) : Eq508 (pastF p g t) (pastF p q t) := by
  intro j hj
  unfold pastF lay
  by_cases q4 : t = 4
  · rw [if_pos q4, if_pos q4]
    by_cases z : 381 ≤ j ∧ j < 381 + 127
    · rw [if_pos z, if_pos z]; exact hg _ (by omega)
    · rw [if_neg z, if_neg z]
  · rw [if_neg q4, if_neg q4]
    by_cases z : 127 * t ≤ j ∧ j < 127 * t + 127
    · rw [if_pos z, if_pos z]; exact hg _ (by omega)
    · rw [if_neg z, if_neg z]
theorem acted_R {h1 : PH} {s1 F : Nat → Int32} {x : Int32} {post' : Option Value → PH → Prop} (I : RI m a) (ht : t ≤ 4) (hR : RAg ca h1 m a s1 g p t f n) (hg : Eq127 g s) (hS : SmR m a h h1) (hE : Eq127 s1 F) (hp : actR ca h m a s p t f n post x F) (hq : ∀ h', post (some (.int x)) h' → post' (some (.int x)) h') : sp_X8_acted ca [.ref m, .int x] h1 post' := by
  have hR' := hR
  obtain ⟨fm, at', re, bd, kp, ks, iw, ip, fo, em, e0, e1, e2, -⟩ := hR
  refine ⟨m, a, t, nI n, fm, at', re, s1, g, p, x, rfl, em, ht, e0, e1, e2, I.1, I.2, fun hx => hq _ ?_, fun hx => hq _ ?_⟩
  · exact hp.1 hx _ _ _ (fun j hj => (flo_in hj).trans (hg j hj)) (fun _ _ => rfl) ⟨_, hR'.s0 I _⟩ (hS.tr (SmR.a (by decide) _))
  · exact hp.2 hx _ _ _ hE (pastF_cong hg ht) ⟨_, (hR'.p2 I _).mm I _ _ _ _ _⟩ (hS.tr ((SmR.a (by decide) _).tr (SmR.m _)))
end
theorem isIn0 {v b : Int32} {B : Nat} (hb : b.toInt = (B : Int)) (h : isIn v 0 b = true) : ∃ V, V ≤ B ∧ v = nI V := by
  unfold isIn at h
  simp only [Bool.and_eq_true, Bool.not_eq_true', decide_eq_false_iff_not] at h
  exact nI_of2 hb h.1 (Int32.not_lt.mp h.2)
theorem inv_le : (-10000001 : Int32) ≤ -10000001 := by decide
/-! answers, both sides' -/
def aMetal (s : Nat → Int32) (x y : Int32) : Int32 := if isIn x 0 5 = true then (if isIn y 0 30 = true then s x.toNatClampNeg else -10000001) else -10000001
def aOutside (s : Nat → Int32) (x : Int32) : Int32 := if isIn x (-500) 1500 = true then s 8 else -10000001
def aWarm (s : Nat → Int32) (x y : Int32) : Int32 := if isIn x 0 2 = true then (if isIn y (-500) 1500 = true then s (106 + 7 * x.toNatClampNeg) else -10000001) else -10000001
def aSet (s : Nat → Int32) (x y : Int32) : Int32 := if isSet x y = true then s (6 + x.toNatClampNeg) else -10000001
def sp_X8_metal (ca : Nat → ClassId) : SPEC := fun av h post => ∃ m a s p t f n x y, av = [.ref m, .int x, .int y] ∧ RI m a ∧ t ≤ 4 ∧ RAt ca h m a s p t f n ∧ actR ca h m a s p t f n post (aMetal s x y) (upd s x.toNatClampNeg y)
def k_X8_metal (ca : Nat → ClassId) : Nat → IT := fun pc => lk pc [(0, i_aload 0 1),
  (1, i_callV 8 0 0 0 0 0 (sp_X8_begins ca) 4),
  (4, i_aload 0 5),
  (5, i_iload 1 6),
  (6, i_push (.int 0) 7),
  (7, i_push (.int 5) 8),
  (8, i_callS 3 0 0 0 0 (sp_X8_in ca) 11),
  (11, i_if (fun x => x = 0) 35 14),
  (14, i_iload 2 15),
  (15, i_push (.int 0) 16),
  (16, i_push (.int 30) 18),
  (18, i_callS 3 0 0 0 0 (sp_X8_in ca) 21),
  (21, i_if (fun x => x = 0) 35 24),
  (24, i_aload 0 25),
  (25, i_push (.int 0) 26),
  (26, i_iload 1 27),
  (27, i_bin (fun x y => x + y) 28),
  (28, i_iload 2 29),
  (29, i_callV 8 2 0 0 0 0 (sp_X8_puts ca) 32),
  (32, i_goto 37),
  (35, i_push (.int (-10000001)) 37),
  (37, i_callV 8 1 0 0 0 0 (sp_X8_acted ca) 40),
  (40, i_ret)]
set_option maxRecDepth 20000 in
theorem t_X8_metal : Tb k_X8_metal yX8_metal cX8_metal 3 (some .int) 2 0 0 := by
  intro l D ca A p e s m args below meth c post X
  unfold k_X8_metal
  refine snd_cons (snd_aload_n X dX8_metal_0 rfl) ?_
  refine snd_cons (snd_callV X Fk8 (ok_X8_begins l D ca) rfl rfl w_698 w_700 wp_16 w_9 w_701 (by decide) (by decide) dX8_metal_1) ?_
  refine snd_cons (snd_aload_n X dX8_metal_4 rfl) ?_
  refine snd_cons (snd_iload_n X dX8_metal_5 rfl) ?_
  refine snd_cons (snd_iconst X dX8_metal_6 (by decide)) ?_
  refine snd_cons (snd_iconst X dX8_metal_7 (by decide)) ?_
  refine snd_cons (snd_callS X (ok_X8_in l D ca) rfl rfl w_702 w_703 w_9 w_704 (by decide) (by decide) dX8_metal_8) ?_
  refine snd_cons (snd_if_eq X dX8_metal_11 (by decide)) ?_
  refine snd_cons (snd_iload_n X dX8_metal_14 rfl) ?_
  refine snd_cons (snd_iconst X dX8_metal_15 (by decide)) ?_
  refine snd_cons (snd_bipush X dX8_metal_16 (by decide)) ?_
  refine snd_cons (snd_callS X (ok_X8_in l D ca) rfl rfl w_702 w_703 w_9 w_704 (by decide) (by decide) dX8_metal_18) ?_
  refine snd_cons (snd_if_eq X dX8_metal_21 (by decide)) ?_
  refine snd_cons (snd_aload_n X dX8_metal_24 rfl) ?_
  refine snd_cons (snd_iconst X dX8_metal_25 (by decide)) ?_
  refine snd_cons (snd_iload_n X dX8_metal_26 rfl) ?_
  refine snd_cons (snd_iadd X dX8_metal_27) ?_
  refine snd_cons (snd_iload_n X dX8_metal_28 rfl) ?_
  refine snd_cons (snd_callV X Fk8 (ok_X8_puts l D ca) rfl rfl w_705 w_707 wp_17 w_9 w_708 (by decide) (by decide) dX8_metal_29) ?_
  refine snd_cons (snd_goto X dX8_metal_32 (by decide)) ?_
  refine snd_cons (snd_ldc X w_709 dX8_metal_35) ?_
  refine snd_cons (snd_callV X Fk8 (ok_X8_acted l D ca) rfl rfl w_710 w_712 wp_18 w_9 w_713 (by decide) (by decide) dX8_metal_37) ?_
  refine snd_cons (snd_ret X dX8_metal_40) ?_
  exact snd_nil
theorem k_X8_metal_0 (ca : Nat → ClassId) : k_X8_metal ca 0 = i_aload 0 1 := rfl
theorem k_X8_metal_1 (ca : Nat → ClassId) : k_X8_metal ca 1 = i_callV 8 0 0 0 0 0 (sp_X8_begins ca) 4 := rfl
theorem k_X8_metal_4 (ca : Nat → ClassId) : k_X8_metal ca 4 = i_aload 0 5 := rfl
theorem k_X8_metal_5 (ca : Nat → ClassId) : k_X8_metal ca 5 = i_iload 1 6 := rfl
theorem k_X8_metal_6 (ca : Nat → ClassId) : k_X8_metal ca 6 = i_push (.int 0) 7 := rfl
theorem k_X8_metal_7 (ca : Nat → ClassId) : k_X8_metal ca 7 = i_push (.int 5) 8 := rfl
theorem k_X8_metal_8 (ca : Nat → ClassId) : k_X8_metal ca 8 = i_callS 3 0 0 0 0 (sp_X8_in ca) 11 := rfl
theorem k_X8_metal_11 (ca : Nat → ClassId) : k_X8_metal ca 11 = i_if (fun x => x = 0) 35 14 := rfl
theorem k_X8_metal_14 (ca : Nat → ClassId) : k_X8_metal ca 14 = i_iload 2 15 := rfl
theorem k_X8_metal_15 (ca : Nat → ClassId) : k_X8_metal ca 15 = i_push (.int 0) 16 := rfl
theorem k_X8_metal_16 (ca : Nat → ClassId) : k_X8_metal ca 16 = i_push (.int 30) 18 := rfl
theorem k_X8_metal_18 (ca : Nat → ClassId) : k_X8_metal ca 18 = i_callS 3 0 0 0 0 (sp_X8_in ca) 21 := rfl
theorem k_X8_metal_21 (ca : Nat → ClassId) : k_X8_metal ca 21 = i_if (fun x => x = 0) 35 24 := rfl
theorem k_X8_metal_24 (ca : Nat → ClassId) : k_X8_metal ca 24 = i_aload 0 25 := rfl
theorem k_X8_metal_25 (ca : Nat → ClassId) : k_X8_metal ca 25 = i_push (.int 0) 26 := rfl
theorem k_X8_metal_26 (ca : Nat → ClassId) : k_X8_metal ca 26 = i_iload 1 27 := rfl
theorem k_X8_metal_27 (ca : Nat → ClassId) : k_X8_metal ca 27 = i_bin (fun x y => x + y) 28 := rfl
theorem k_X8_metal_28 (ca : Nat → ClassId) : k_X8_metal ca 28 = i_iload 2 29 := rfl
theorem k_X8_metal_29 (ca : Nat → ClassId) : k_X8_metal ca 29 = i_callV 8 2 0 0 0 0 (sp_X8_puts ca) 32 := rfl
theorem k_X8_metal_32 (ca : Nat → ClassId) : k_X8_metal ca 32 = i_goto 37 := rfl
theorem k_X8_metal_35 (ca : Nat → ClassId) : k_X8_metal ca 35 = i_push (.int (-10000001)) 37 := rfl
theorem k_X8_metal_37 (ca : Nat → ClassId) : k_X8_metal ca 37 = i_callV 8 1 0 0 0 0 (sp_X8_acted ca) 40 := rfl
theorem k_X8_metal_40 (ca : Nat → ClassId) : k_X8_metal ca 40 = i_ret := rfl
set_option maxHeartbeats 4000000 in
set_option maxRecDepth 20000 in
theorem ok_X8_metal (l : Launch) (D : va_G) (ca : Nat → ClassId) : OkAll l D ca yX8_metal cX8_metal 3 (some .int) 2 0 0 (sp_X8_metal ca) := by
  intro av h post hs
  obtain ⟨m, a, s, p, t, f, n, x, y, rfl, I, ht, hR, hs⟩ := hs
  refine okM_of t_X8_metal (by decide +kernel) (c1_ref (c1_int (c1_int c1_nil))) (Nat.le_of_ble_eq_true rfl) ?_
  intro K go
  have d0 := I.2 0
  obtain ⟨l0, hm0⟩ := hR.m8
  have fin : ∀ lv x h', post (some (.int x)) h' → K 0 0 40 lv [.int x] h' := by
    intro lv x h' hh
    refine goN go (stp []) 160 _ _ _ _ _ _ (fun F hF hF0 => ?_)
    simp only [hF, hF0, ite_not, i_push, i_iload, i_lload, i_aload, i_istore, i_astore, i_lstore, i_iinc, i_bin, i_dv, i_un, i_lbin, i_lsh, i_i2l, i_l2i, i_lcmp, i_dup, i_dup2, i_pop, i_if, i_icmp, i_goto, swG, i_sw, i_getf, i_puti, i_putz, i_putr, i_ald, i_lald, i_aald, i_ast, i_last, i_aast, i_alen, i_new, i_newi, i_newl, i_newq, i_oinit, i_ret, i_zret, i_lret, i_vret, catS, tk, rpush, isO, i_m1, i_m2, i_acopy, i_callV, i_callS, KRet, lget, lput, lputL, lcl0, isL, lv0, List.map_cons, List.map_nil, List.length_cons, List.length_nil, List.cons_append, List.nil_append, Nat.reduceAdd, Nat.reduceSub, Nat.reduceLeDiff, List.replicate_succ, List.replicate_zero, List.getElem?_cons_succ, List.getElem?_cons_zero, List.set_cons_succ, List.set_cons_zero, true_and, and_true, if_true, if_false, ↓reduceIte, Nat.le_refl, Value.category, va_up_app, eq_self, stp, Nat.reduceBEq, Bool.or_false, Bool.false_or, Bool.true_or, Bool.or_true, or_true, true_or, bx_uu, implies_true, true_implies, not_true, not_false_eq_true, false_implies, and_self, Nat.reduceLT, Int32.reduceAdd, Int32.reduceSub, Int32.reduceMul, Int32.reduceLE, Int32.reduceLT, Int32.reduceToNatClampNeg, va_rf_some, Bool.false_eq_true, k_X8_metal_0 ca, k_X8_metal_1 ca, k_X8_metal_4 ca, k_X8_metal_5 ca, k_X8_metal_6 ca, k_X8_metal_7 ca, k_X8_metal_8 ca, k_X8_metal_11 ca, k_X8_metal_14 ca, k_X8_metal_15 ca, k_X8_metal_16 ca, k_X8_metal_18 ca, k_X8_metal_21 ca, k_X8_metal_24 ca, k_X8_metal_25 ca, k_X8_metal_26 ca, k_X8_metal_27 ca, k_X8_metal_28 ca, k_X8_metal_29 ca, k_X8_metal_32 ca, k_X8_metal_35 ca, k_X8_metal_37 ca, k_X8_metal_40 ca]
    try clear hF hF0 F
    exact hh
  refine goN go (stp [4]) 160 _ _ _ _ _ _ (fun F hF hF0 => ?_)
  simp only [hF, hF0, ite_not, i_push, i_iload, i_lload, i_aload, i_istore, i_astore, i_lstore, i_iinc, i_bin, i_dv, i_un, i_lbin, i_lsh, i_i2l, i_l2i, i_lcmp, i_dup, i_dup2, i_pop, i_if, i_icmp, i_goto, swG, i_sw, i_getf, i_puti, i_putz, i_putr, i_ald, i_lald, i_aald, i_ast, i_last, i_aast, i_alen, i_new, i_newi, i_newl, i_newq, i_oinit, i_ret, i_zret, i_lret, i_vret, catS, tk, rpush, isO, i_m1, i_m2, i_acopy, i_callV, i_callS, KRet, lget, lput, lputL, lcl0, isL, lv0, List.map_cons, List.map_nil, List.length_cons, List.length_nil, List.cons_append, List.nil_append, Nat.reduceAdd, Nat.reduceSub, Nat.reduceLeDiff, List.replicate_succ, List.replicate_zero, List.getElem?_cons_succ, List.getElem?_cons_zero, List.set_cons_succ, List.set_cons_zero, true_and, and_true, if_true, if_false, ↓reduceIte, Nat.le_refl, Value.category, va_up_app, eq_self, stp, Nat.reduceBEq, Bool.or_false, Bool.false_or, Bool.true_or, Bool.or_true, or_true, true_or, bx_uu, implies_true, true_implies, not_true, not_false_eq_true, false_implies, and_self, Nat.reduceLT, Int32.reduceAdd, Int32.reduceSub, Int32.reduceMul, Int32.reduceLE, Int32.reduceLT, Int32.reduceToNatClampNeg, va_rf_some, Bool.false_eq_true, k_X8_metal_0 ca, k_X8_metal_1 ca, k_X8_metal_4 ca, k_X8_metal_5 ca, k_X8_metal_6 ca, k_X8_metal_7 ca, k_X8_metal_8 ca, k_X8_metal_11 ca, k_X8_metal_14 ca, k_X8_metal_15 ca, k_X8_metal_16 ca, k_X8_metal_18 ca, k_X8_metal_21 ca, k_X8_metal_24 ca, k_X8_metal_25 ca, k_X8_metal_26 ca, k_X8_metal_27 ca, k_X8_metal_28 ca, k_X8_metal_29 ca, k_X8_metal_32 ca, k_X8_metal_35 ca, k_X8_metal_37 ca, k_X8_metal_40 ca, hm0]
  try clear hF hF0 F
  refine begins_of I hR (fun h1 g hg hR1 hS1 => ?_)
  obtain ⟨fm, at', re, bd, kp, ks, iw, ip, fo, em, e0, -⟩ := id hR1
  unfold eMod at em
  unfold aMetal at hs
  cases q1 : isIn x 0 5 with
  | false =>
    rw [q1, if_neg (by decide)] at hs
    refine goN go (stp [40]) 160 _ _ _ _ _ _ (fun F hF hF0 => ?_)
    simp only [hF, hF0, ite_not, i_push, i_iload, i_lload, i_aload, i_istore, i_astore, i_lstore, i_iinc, i_bin, i_dv, i_un, i_lbin, i_lsh, i_i2l, i_l2i, i_lcmp, i_dup, i_dup2, i_pop, i_if, i_icmp, i_goto, swG, i_sw, i_getf, i_puti, i_putz, i_putr, i_ald, i_lald, i_aald, i_ast, i_last, i_aast, i_alen, i_new, i_newi, i_newl, i_newq, i_oinit, i_ret, i_zret, i_lret, i_vret, catS, tk, rpush, isO, i_m1, i_m2, i_acopy, i_callV, i_callS, KRet, lget, lput, lputL, lcl0, isL, lv0, List.map_cons, List.map_nil, List.length_cons, List.length_nil, List.cons_append, List.nil_append, Nat.reduceAdd, Nat.reduceSub, Nat.reduceLeDiff, List.replicate_succ, List.replicate_zero, List.getElem?_cons_succ, List.getElem?_cons_zero, List.set_cons_succ, List.set_cons_zero, true_and, and_true, if_true, if_false, ↓reduceIte, Nat.le_refl, Value.category, va_up_app, eq_self, stp, Nat.reduceBEq, Bool.or_false, Bool.false_or, Bool.true_or, Bool.or_true, or_true, true_or, bx_uu, implies_true, true_implies, not_true, not_false_eq_true, false_implies, and_self, Nat.reduceLT, Int32.reduceAdd, Int32.reduceSub, Int32.reduceMul, Int32.reduceLE, Int32.reduceLT, Int32.reduceToNatClampNeg, va_rf_some, Bool.false_eq_true, k_X8_metal_0 ca, k_X8_metal_1 ca, k_X8_metal_4 ca, k_X8_metal_5 ca, k_X8_metal_6 ca, k_X8_metal_7 ca, k_X8_metal_8 ca, k_X8_metal_11 ca, k_X8_metal_14 ca, k_X8_metal_15 ca, k_X8_metal_16 ca, k_X8_metal_18 ca, k_X8_metal_21 ca, k_X8_metal_24 ca, k_X8_metal_25 ca, k_X8_metal_26 ca, k_X8_metal_27 ca, k_X8_metal_28 ca, k_X8_metal_29 ca, k_X8_metal_32 ca, k_X8_metal_35 ca, k_X8_metal_37 ca, k_X8_metal_40 ca, sp_X8_in, sp_X7_isWithin, q1, b2i_f, em, d0]
    try clear hF hF0 F
    exact acted_R I ht hR1 hg hS1 Eq127.rf ⟨hs.1, fun z => absurd inv_le z⟩ (fun h' => fin _ _ h')
  | true =>
    rw [q1, if_pos rfl] at hs
    cases q2 : isIn y 0 30 with
    | false =>
      rw [q2, if_neg (by decide)] at hs
      refine goN go (stp [40]) 160 _ _ _ _ _ _ (fun F hF hF0 => ?_)
      simp only [hF, hF0, ite_not, i_push, i_iload, i_lload, i_aload, i_istore, i_astore, i_lstore, i_iinc, i_bin, i_dv, i_un, i_lbin, i_lsh, i_i2l, i_l2i, i_lcmp, i_dup, i_dup2, i_pop, i_if, i_icmp, i_goto, swG, i_sw, i_getf, i_puti, i_putz, i_putr, i_ald, i_lald, i_aald, i_ast, i_last, i_aast, i_alen, i_new, i_newi, i_newl, i_newq, i_oinit, i_ret, i_zret, i_lret, i_vret, catS, tk, rpush, isO, i_m1, i_m2, i_acopy, i_callV, i_callS, KRet, lget, lput, lputL, lcl0, isL, lv0, List.map_cons, List.map_nil, List.length_cons, List.length_nil, List.cons_append, List.nil_append, Nat.reduceAdd, Nat.reduceSub, Nat.reduceLeDiff, List.replicate_succ, List.replicate_zero, List.getElem?_cons_succ, List.getElem?_cons_zero, List.set_cons_succ, List.set_cons_zero, true_and, and_true, if_true, if_false, ↓reduceIte, Nat.le_refl, Value.category, va_up_app, eq_self, stp, Nat.reduceBEq, Bool.or_false, Bool.false_or, Bool.true_or, Bool.or_true, or_true, true_or, bx_uu, implies_true, true_implies, not_true, not_false_eq_true, false_implies, and_self, Nat.reduceLT, Int32.reduceAdd, Int32.reduceSub, Int32.reduceMul, Int32.reduceLE, Int32.reduceLT, Int32.reduceToNatClampNeg, va_rf_some, Bool.false_eq_true, k_X8_metal_0 ca, k_X8_metal_1 ca, k_X8_metal_4 ca, k_X8_metal_5 ca, k_X8_metal_6 ca, k_X8_metal_7 ca, k_X8_metal_8 ca, k_X8_metal_11 ca, k_X8_metal_14 ca, k_X8_metal_15 ca, k_X8_metal_16 ca, k_X8_metal_18 ca, k_X8_metal_21 ca, k_X8_metal_24 ca, k_X8_metal_25 ca, k_X8_metal_26 ca, k_X8_metal_27 ca, k_X8_metal_28 ca, k_X8_metal_29 ca, k_X8_metal_32 ca, k_X8_metal_35 ca, k_X8_metal_37 ca, k_X8_metal_40 ca, sp_X8_in, sp_X7_isWithin, q1, q2, b2i_f, b2i_t, one0, em, d0]
      try clear hF hF0 F
      exact acted_R I ht hR1 hg hS1 Eq127.rf ⟨hs.1, fun z => absurd inv_le z⟩ (fun h' => fin _ _ h')
    | true =>
      rw [q2, if_pos rfl] at hs
      obtain ⟨X, hX, rfl⟩ := isIn0 (B := 5) rfl q1
      have xx : (nI X).toNatClampNeg = X := tn127 (by omega)
      have vx : vp_in (nI X) 127 := vp127 (by omega)
      rw [xx] at hs
      refine goN go (stp [40]) 160 _ _ _ _ _ _ (fun F hF hF0 => ?_)
      simp only [hF, hF0, ite_not, i_push, i_iload, i_lload, i_aload, i_istore, i_astore, i_lstore, i_iinc, i_bin, i_dv, i_un, i_lbin, i_lsh, i_i2l, i_l2i, i_lcmp, i_dup, i_dup2, i_pop, i_if, i_icmp, i_goto, swG, i_sw, i_getf, i_puti, i_putz, i_putr, i_ald, i_lald, i_aald, i_ast, i_last, i_aast, i_alen, i_new, i_newi, i_newl, i_newq, i_oinit, i_ret, i_zret, i_lret, i_vret, catS, tk, rpush, isO, i_m1, i_m2, i_acopy, i_callV, i_callS, KRet, lget, lput, lputL, lcl0, isL, lv0, List.map_cons, List.map_nil, List.length_cons, List.length_nil, List.cons_append, List.nil_append, Nat.reduceAdd, Nat.reduceSub, Nat.reduceLeDiff, List.replicate_succ, List.replicate_zero, List.getElem?_cons_succ, List.getElem?_cons_zero, List.set_cons_succ, List.set_cons_zero, true_and, and_true, if_true, if_false, ↓reduceIte, Nat.le_refl, Value.category, va_up_app, eq_self, stp, Nat.reduceBEq, Bool.or_false, Bool.false_or, Bool.true_or, Bool.or_true, or_true, true_or, bx_uu, implies_true, true_implies, not_true, not_false_eq_true, false_implies, and_self, Nat.reduceLT, Int32.reduceAdd, Int32.reduceSub, Int32.reduceMul, Int32.reduceLE, Int32.reduceLT, Int32.reduceToNatClampNeg, va_rf_some, Bool.false_eq_true, k_X8_metal_0 ca, k_X8_metal_1 ca, k_X8_metal_4 ca, k_X8_metal_5 ca, k_X8_metal_6 ca, k_X8_metal_7 ca, k_X8_metal_8 ca, k_X8_metal_11 ca, k_X8_metal_14 ca, k_X8_metal_15 ca, k_X8_metal_16 ca, k_X8_metal_18 ca, k_X8_metal_21 ca, k_X8_metal_24 ca, k_X8_metal_25 ca, k_X8_metal_26 ca, k_X8_metal_27 ca, k_X8_metal_28 ca, k_X8_metal_29 ca, k_X8_metal_32 ca, k_X8_metal_35 ca, k_X8_metal_37 ca, k_X8_metal_40 ca, sp_X8_in, sp_X7_isWithin, sp_X8_puts, q1, q2, b2i_t, one0, Int32.zero_add, xx, vx, em, e0, d0]
      try clear hF hF0 F
      exact acted_R I ht (hR1.s0 I _) hg (hS1.tr (SmR.a (by decide) _)) Eq127.rf hs (fun h' => fin _ _ h')
def sp_X8_outside (ca : Nat → ClassId) : SPEC := fun av h post => ∃ m a s p t f n x, av = [.ref m, .int x] ∧ RI m a ∧ t ≤ 4 ∧ RAt ca h m a s p t f n ∧ actR ca h m a s p t f n post (aOutside s x) (upd s 8 x)
def k_X8_outside (ca : Nat → ClassId) : Nat → IT := fun pc => lk pc [(0, i_aload 0 1),
  (1, i_callV 8 0 0 0 0 0 (sp_X8_begins ca) 4),
  (4, i_aload 0 5),
  (5, i_iload 1 6),
  (6, i_callS 1 0 0 0 0 (sp_X8_isWarmth ca) 9),
  (9, i_if (fun x => x = 0) 22 12),
  (12, i_aload 0 13),
  (13, i_push (.int 8) 15),
  (15, i_iload 1 16),
  (16, i_callV 8 2 0 0 0 0 (sp_X8_puts ca) 19),
  (19, i_goto 24),
  (22, i_push (.int (-10000001)) 24),
  (24, i_callV 8 1 0 0 0 0 (sp_X8_acted ca) 27),
  (27, i_ret)]
set_option maxRecDepth 20000 in
theorem t_X8_outside : Tb k_X8_outside yX8_outside cX8_outside 2 (some .int) 2 0 0 := by
  intro l D ca A p e s m args below meth c post X
  unfold k_X8_outside
  refine snd_cons (snd_aload_n X dX8_outside_0 rfl) ?_
  refine snd_cons (snd_callV X Fk8 (ok_X8_begins l D ca) rfl rfl w_698 w_700 wp_16 w_9 w_701 (by decide) (by decide) dX8_outside_1) ?_
  refine snd_cons (snd_aload_n X dX8_outside_4 rfl) ?_
  refine snd_cons (snd_iload_n X dX8_outside_5 rfl) ?_
  refine snd_cons (snd_callS X (ok_X8_isWarmth l D ca) rfl rfl w_794 w_795 w_9 w_796 (by decide) (by decide) dX8_outside_6) ?_
  refine snd_cons (snd_if_eq X dX8_outside_9 (by decide)) ?_
  refine snd_cons (snd_aload_n X dX8_outside_12 rfl) ?_
  refine snd_cons (snd_bipush X dX8_outside_13 (by decide)) ?_
  refine snd_cons (snd_iload_n X dX8_outside_15 rfl) ?_
  refine snd_cons (snd_callV X Fk8 (ok_X8_puts l D ca) rfl rfl w_705 w_707 wp_17 w_9 w_708 (by decide) (by decide) dX8_outside_16) ?_
  refine snd_cons (snd_goto X dX8_outside_19 (by decide)) ?_
  refine snd_cons (snd_ldc X w_709 dX8_outside_22) ?_
  refine snd_cons (snd_callV X Fk8 (ok_X8_acted l D ca) rfl rfl w_710 w_712 wp_18 w_9 w_713 (by decide) (by decide) dX8_outside_24) ?_
  refine snd_cons (snd_ret X dX8_outside_27) ?_
  exact snd_nil
theorem k_X8_outside_0 (ca : Nat → ClassId) : k_X8_outside ca 0 = i_aload 0 1 := rfl
theorem k_X8_outside_1 (ca : Nat → ClassId) : k_X8_outside ca 1 = i_callV 8 0 0 0 0 0 (sp_X8_begins ca) 4 := rfl
theorem k_X8_outside_4 (ca : Nat → ClassId) : k_X8_outside ca 4 = i_aload 0 5 := rfl
theorem k_X8_outside_5 (ca : Nat → ClassId) : k_X8_outside ca 5 = i_iload 1 6 := rfl
theorem k_X8_outside_6 (ca : Nat → ClassId) : k_X8_outside ca 6 = i_callS 1 0 0 0 0 (sp_X8_isWarmth ca) 9 := rfl
theorem k_X8_outside_9 (ca : Nat → ClassId) : k_X8_outside ca 9 = i_if (fun x => x = 0) 22 12 := rfl
theorem k_X8_outside_12 (ca : Nat → ClassId) : k_X8_outside ca 12 = i_aload 0 13 := rfl
theorem k_X8_outside_13 (ca : Nat → ClassId) : k_X8_outside ca 13 = i_push (.int 8) 15 := rfl
theorem k_X8_outside_15 (ca : Nat → ClassId) : k_X8_outside ca 15 = i_iload 1 16 := rfl
theorem k_X8_outside_16 (ca : Nat → ClassId) : k_X8_outside ca 16 = i_callV 8 2 0 0 0 0 (sp_X8_puts ca) 19 := rfl
theorem k_X8_outside_19 (ca : Nat → ClassId) : k_X8_outside ca 19 = i_goto 24 := rfl
theorem k_X8_outside_22 (ca : Nat → ClassId) : k_X8_outside ca 22 = i_push (.int (-10000001)) 24 := rfl
theorem k_X8_outside_24 (ca : Nat → ClassId) : k_X8_outside ca 24 = i_callV 8 1 0 0 0 0 (sp_X8_acted ca) 27 := rfl
theorem k_X8_outside_27 (ca : Nat → ClassId) : k_X8_outside ca 27 = i_ret := rfl
set_option maxHeartbeats 4000000 in
set_option maxRecDepth 20000 in
theorem ok_X8_outside (l : Launch) (D : va_G) (ca : Nat → ClassId) : OkAll l D ca yX8_outside cX8_outside 2 (some .int) 2 0 0 (sp_X8_outside ca) := by
  intro av h post hs
  obtain ⟨m, a, s, p, t, f, n, x, rfl, I, ht, hR, hs⟩ := hs
  refine okM_of t_X8_outside (by decide +kernel) (c1_ref (c1_int c1_nil)) (Nat.le_of_ble_eq_true rfl) ?_
  intro K go
  have d0 := I.2 0
  obtain ⟨l0, hm0⟩ := hR.m8
  have fin : ∀ lv x h', post (some (.int x)) h' → K 0 0 27 lv [.int x] h' := by
    intro lv x h' hh
    refine goN go (stp []) 160 _ _ _ _ _ _ (fun F hF hF0 => ?_)
    simp only [hF, hF0, ite_not, i_push, i_iload, i_lload, i_aload, i_istore, i_astore, i_lstore, i_iinc, i_bin, i_dv, i_un, i_lbin, i_lsh, i_i2l, i_l2i, i_lcmp, i_dup, i_dup2, i_pop, i_if, i_icmp, i_goto, swG, i_sw, i_getf, i_puti, i_putz, i_putr, i_ald, i_lald, i_aald, i_ast, i_last, i_aast, i_alen, i_new, i_newi, i_newl, i_newq, i_oinit, i_ret, i_zret, i_lret, i_vret, catS, tk, rpush, isO, i_m1, i_m2, i_acopy, i_callV, i_callS, KRet, lget, lput, lputL, lcl0, isL, lv0, List.map_cons, List.map_nil, List.length_cons, List.length_nil, List.cons_append, List.nil_append, Nat.reduceAdd, Nat.reduceSub, Nat.reduceLeDiff, List.replicate_succ, List.replicate_zero, List.getElem?_cons_succ, List.getElem?_cons_zero, List.set_cons_succ, List.set_cons_zero, true_and, and_true, if_true, if_false, ↓reduceIte, Nat.le_refl, Value.category, va_up_app, eq_self, stp, Nat.reduceBEq, Bool.or_false, Bool.false_or, Bool.true_or, Bool.or_true, or_true, true_or, bx_uu, implies_true, true_implies, not_true, not_false_eq_true, false_implies, and_self, Nat.reduceLT, Int32.reduceAdd, Int32.reduceSub, Int32.reduceMul, Int32.reduceLE, Int32.reduceLT, Int32.reduceToNatClampNeg, va_rf_some, Bool.false_eq_true, k_X8_outside_0 ca, k_X8_outside_1 ca, k_X8_outside_4 ca, k_X8_outside_5 ca, k_X8_outside_6 ca, k_X8_outside_9 ca, k_X8_outside_12 ca, k_X8_outside_13 ca, k_X8_outside_15 ca, k_X8_outside_16 ca, k_X8_outside_19 ca, k_X8_outside_22 ca, k_X8_outside_24 ca, k_X8_outside_27 ca]
    try clear hF hF0 F
    exact hh
  refine goN go (stp [4]) 160 _ _ _ _ _ _ (fun F hF hF0 => ?_)
  simp only [hF, hF0, ite_not, i_push, i_iload, i_lload, i_aload, i_istore, i_astore, i_lstore, i_iinc, i_bin, i_dv, i_un, i_lbin, i_lsh, i_i2l, i_l2i, i_lcmp, i_dup, i_dup2, i_pop, i_if, i_icmp, i_goto, swG, i_sw, i_getf, i_puti, i_putz, i_putr, i_ald, i_lald, i_aald, i_ast, i_last, i_aast, i_alen, i_new, i_newi, i_newl, i_newq, i_oinit, i_ret, i_zret, i_lret, i_vret, catS, tk, rpush, isO, i_m1, i_m2, i_acopy, i_callV, i_callS, KRet, lget, lput, lputL, lcl0, isL, lv0, List.map_cons, List.map_nil, List.length_cons, List.length_nil, List.cons_append, List.nil_append, Nat.reduceAdd, Nat.reduceSub, Nat.reduceLeDiff, List.replicate_succ, List.replicate_zero, List.getElem?_cons_succ, List.getElem?_cons_zero, List.set_cons_succ, List.set_cons_zero, true_and, and_true, if_true, if_false, ↓reduceIte, Nat.le_refl, Value.category, va_up_app, eq_self, stp, Nat.reduceBEq, Bool.or_false, Bool.false_or, Bool.true_or, Bool.or_true, or_true, true_or, bx_uu, implies_true, true_implies, not_true, not_false_eq_true, false_implies, and_self, Nat.reduceLT, Int32.reduceAdd, Int32.reduceSub, Int32.reduceMul, Int32.reduceLE, Int32.reduceLT, Int32.reduceToNatClampNeg, va_rf_some, Bool.false_eq_true, k_X8_outside_0 ca, k_X8_outside_1 ca, k_X8_outside_4 ca, k_X8_outside_5 ca, k_X8_outside_6 ca, k_X8_outside_9 ca, k_X8_outside_12 ca, k_X8_outside_13 ca, k_X8_outside_15 ca, k_X8_outside_16 ca, k_X8_outside_19 ca, k_X8_outside_22 ca, k_X8_outside_24 ca, k_X8_outside_27 ca, hm0]
  try clear hF hF0 F
  refine begins_of I hR (fun h1 g hg hR1 hS1 => ?_)
  obtain ⟨fm, at', re, bd, kp, ks, iw, ip, fo, em, e0, -⟩ := id hR1
  unfold eMod at em
  unfold aOutside at hs
  cases q1 : isIn x (-500) 1500 with
  | false =>
    rw [q1, if_neg (by decide)] at hs
    refine goN go (stp [27]) 160 _ _ _ _ _ _ (fun F hF hF0 => ?_)
    simp only [hF, hF0, ite_not, i_push, i_iload, i_lload, i_aload, i_istore, i_astore, i_lstore, i_iinc, i_bin, i_dv, i_un, i_lbin, i_lsh, i_i2l, i_l2i, i_lcmp, i_dup, i_dup2, i_pop, i_if, i_icmp, i_goto, swG, i_sw, i_getf, i_puti, i_putz, i_putr, i_ald, i_lald, i_aald, i_ast, i_last, i_aast, i_alen, i_new, i_newi, i_newl, i_newq, i_oinit, i_ret, i_zret, i_lret, i_vret, catS, tk, rpush, isO, i_m1, i_m2, i_acopy, i_callV, i_callS, KRet, lget, lput, lputL, lcl0, isL, lv0, List.map_cons, List.map_nil, List.length_cons, List.length_nil, List.cons_append, List.nil_append, Nat.reduceAdd, Nat.reduceSub, Nat.reduceLeDiff, List.replicate_succ, List.replicate_zero, List.getElem?_cons_succ, List.getElem?_cons_zero, List.set_cons_succ, List.set_cons_zero, true_and, and_true, if_true, if_false, ↓reduceIte, Nat.le_refl, Value.category, va_up_app, eq_self, stp, Nat.reduceBEq, Bool.or_false, Bool.false_or, Bool.true_or, Bool.or_true, or_true, true_or, bx_uu, implies_true, true_implies, not_true, not_false_eq_true, false_implies, and_self, Nat.reduceLT, Int32.reduceAdd, Int32.reduceSub, Int32.reduceMul, Int32.reduceLE, Int32.reduceLT, Int32.reduceToNatClampNeg, va_rf_some, Bool.false_eq_true, k_X8_outside_0 ca, k_X8_outside_1 ca, k_X8_outside_4 ca, k_X8_outside_5 ca, k_X8_outside_6 ca, k_X8_outside_9 ca, k_X8_outside_12 ca, k_X8_outside_13 ca, k_X8_outside_15 ca, k_X8_outside_16 ca, k_X8_outside_19 ca, k_X8_outside_22 ca, k_X8_outside_24 ca, k_X8_outside_27 ca, sp_X8_isWarmth, sp_X7_isWarmth, q1, b2i_f, em, d0]
    try clear hF hF0 F
    exact acted_R I ht hR1 hg hS1 Eq127.rf ⟨hs.1, fun z => absurd inv_le z⟩ (fun h' => fin _ _ h')
  | true =>
    rw [q1, if_pos rfl] at hs
    refine goN go (stp [27]) 160 _ _ _ _ _ _ (fun F hF hF0 => ?_)
    simp only [hF, hF0, ite_not, i_push, i_iload, i_lload, i_aload, i_istore, i_astore, i_lstore, i_iinc, i_bin, i_dv, i_un, i_lbin, i_lsh, i_i2l, i_l2i, i_lcmp, i_dup, i_dup2, i_pop, i_if, i_icmp, i_goto, swG, i_sw, i_getf, i_puti, i_putz, i_putr, i_ald, i_lald, i_aald, i_ast, i_last, i_aast, i_alen, i_new, i_newi, i_newl, i_newq, i_oinit, i_ret, i_zret, i_lret, i_vret, catS, tk, rpush, isO, i_m1, i_m2, i_acopy, i_callV, i_callS, KRet, lget, lput, lputL, lcl0, isL, lv0, List.map_cons, List.map_nil, List.length_cons, List.length_nil, List.cons_append, List.nil_append, Nat.reduceAdd, Nat.reduceSub, Nat.reduceLeDiff, List.replicate_succ, List.replicate_zero, List.getElem?_cons_succ, List.getElem?_cons_zero, List.set_cons_succ, List.set_cons_zero, true_and, and_true, if_true, if_false, ↓reduceIte, Nat.le_refl, Value.category, va_up_app, eq_self, stp, Nat.reduceBEq, Bool.or_false, Bool.false_or, Bool.true_or, Bool.or_true, or_true, true_or, bx_uu, implies_true, true_implies, not_true, not_false_eq_true, false_implies, and_self, Nat.reduceLT, Int32.reduceAdd, Int32.reduceSub, Int32.reduceMul, Int32.reduceLE, Int32.reduceLT, Int32.reduceToNatClampNeg, va_rf_some, Bool.false_eq_true, k_X8_outside_0 ca, k_X8_outside_1 ca, k_X8_outside_4 ca, k_X8_outside_5 ca, k_X8_outside_6 ca, k_X8_outside_9 ca, k_X8_outside_12 ca, k_X8_outside_13 ca, k_X8_outside_15 ca, k_X8_outside_16 ca, k_X8_outside_19 ca, k_X8_outside_22 ca, k_X8_outside_24 ca, k_X8_outside_27 ca, sp_X8_isWarmth, sp_X7_isWarmth, sp_X8_puts, q1, b2i_t, one0, vp_in, or_self, em, e0, d0]
    try clear hF hF0 F
    exact acted_R I ht (hR1.s0 I _) hg (hS1.tr (SmR.a (by decide) _)) Eq127.rf hs (fun h' => fin _ _ h')
def sp_X8_warm (ca : Nat → ClassId) : SPEC := fun av h post => ∃ m a s p t f n x y, av = [.ref m, .int x, .int y] ∧ RI m a ∧ t ≤ 4 ∧ RAt ca h m a s p t f n ∧ actR ca h m a s p t f n post (aWarm s x y) (upd s (106 + 7 * x.toNatClampNeg) y)
def k_X8_warm (ca : Nat → ClassId) : Nat → IT := fun pc => lk pc [(0, i_aload 0 1),
  (1, i_callV 8 0 0 0 0 0 (sp_X8_begins ca) 4),
  (4, i_aload 0 5),
  (5, i_iload 1 6),
  (6, i_callS 1 0 0 0 0 (sp_X8_isOne ca) 9),
  (9, i_if (fun x => x = 0) 31 12),
  (12, i_iload 2 13),
  (13, i_callS 1 0 0 0 0 (sp_X8_isWarmth ca) 16),
  (16, i_if (fun x => x = 0) 31 19),
  (19, i_aload 0 20),
  (20, i_iload 1 21),
  (21, i_callS 1 0 0 0 0 (sp_X8_roomAt ca) 24),
  (24, i_iload 2 25),
  (25, i_callV 8 2 0 0 0 0 (sp_X8_puts ca) 28),
  (28, i_goto 33),
  (31, i_push (.int (-10000001)) 33),
  (33, i_callV 8 1 0 0 0 0 (sp_X8_acted ca) 36),
  (36, i_ret)]
set_option maxRecDepth 20000 in
theorem t_X8_warm : Tb k_X8_warm yX8_warm cX8_warm 3 (some .int) 2 0 0 := by
  intro l D ca A p e s m args below meth c post X
  unfold k_X8_warm
  refine snd_cons (snd_aload_n X dX8_warm_0 rfl) ?_
  refine snd_cons (snd_callV X Fk8 (ok_X8_begins l D ca) rfl rfl w_698 w_700 wp_16 w_9 w_701 (by decide) (by decide) dX8_warm_1) ?_
  refine snd_cons (snd_aload_n X dX8_warm_4 rfl) ?_
  refine snd_cons (snd_iload_n X dX8_warm_5 rfl) ?_
  refine snd_cons (snd_callS X (ok_X8_isOne l D ca) rfl rfl w_722 w_723 w_9 w_724 (by decide) (by decide) dX8_warm_6) ?_
  refine snd_cons (snd_if_eq X dX8_warm_9 (by decide)) ?_
  refine snd_cons (snd_iload_n X dX8_warm_12 rfl) ?_
  refine snd_cons (snd_callS X (ok_X8_isWarmth l D ca) rfl rfl w_794 w_795 w_9 w_796 (by decide) (by decide) dX8_warm_13) ?_
  refine snd_cons (snd_if_eq X dX8_warm_16 (by decide)) ?_
  refine snd_cons (snd_aload_n X dX8_warm_19 rfl) ?_
  refine snd_cons (snd_iload_n X dX8_warm_20 rfl) ?_
  refine snd_cons (snd_callS X (ok_X8_roomAt l D ca) rfl rfl w_644 w_645 w_9 w_646 (by decide) (by decide) dX8_warm_21) ?_
  refine snd_cons (snd_iload_n X dX8_warm_24 rfl) ?_
  refine snd_cons (snd_callV X Fk8 (ok_X8_puts l D ca) rfl rfl w_705 w_707 wp_17 w_9 w_708 (by decide) (by decide) dX8_warm_25) ?_
  refine snd_cons (snd_goto X dX8_warm_28 (by decide)) ?_
  refine snd_cons (snd_ldc X w_709 dX8_warm_31) ?_
  refine snd_cons (snd_callV X Fk8 (ok_X8_acted l D ca) rfl rfl w_710 w_712 wp_18 w_9 w_713 (by decide) (by decide) dX8_warm_33) ?_
  refine snd_cons (snd_ret X dX8_warm_36) ?_
  exact snd_nil
theorem k_X8_warm_0 (ca : Nat → ClassId) : k_X8_warm ca 0 = i_aload 0 1 := rfl
theorem k_X8_warm_1 (ca : Nat → ClassId) : k_X8_warm ca 1 = i_callV 8 0 0 0 0 0 (sp_X8_begins ca) 4 := rfl
theorem k_X8_warm_4 (ca : Nat → ClassId) : k_X8_warm ca 4 = i_aload 0 5 := rfl
theorem k_X8_warm_5 (ca : Nat → ClassId) : k_X8_warm ca 5 = i_iload 1 6 := rfl
theorem k_X8_warm_6 (ca : Nat → ClassId) : k_X8_warm ca 6 = i_callS 1 0 0 0 0 (sp_X8_isOne ca) 9 := rfl
theorem k_X8_warm_9 (ca : Nat → ClassId) : k_X8_warm ca 9 = i_if (fun x => x = 0) 31 12 := rfl
theorem k_X8_warm_12 (ca : Nat → ClassId) : k_X8_warm ca 12 = i_iload 2 13 := rfl
theorem k_X8_warm_13 (ca : Nat → ClassId) : k_X8_warm ca 13 = i_callS 1 0 0 0 0 (sp_X8_isWarmth ca) 16 := rfl
theorem k_X8_warm_16 (ca : Nat → ClassId) : k_X8_warm ca 16 = i_if (fun x => x = 0) 31 19 := rfl
theorem k_X8_warm_19 (ca : Nat → ClassId) : k_X8_warm ca 19 = i_aload 0 20 := rfl
theorem k_X8_warm_20 (ca : Nat → ClassId) : k_X8_warm ca 20 = i_iload 1 21 := rfl
theorem k_X8_warm_21 (ca : Nat → ClassId) : k_X8_warm ca 21 = i_callS 1 0 0 0 0 (sp_X8_roomAt ca) 24 := rfl
theorem k_X8_warm_24 (ca : Nat → ClassId) : k_X8_warm ca 24 = i_iload 2 25 := rfl
theorem k_X8_warm_25 (ca : Nat → ClassId) : k_X8_warm ca 25 = i_callV 8 2 0 0 0 0 (sp_X8_puts ca) 28 := rfl
theorem k_X8_warm_28 (ca : Nat → ClassId) : k_X8_warm ca 28 = i_goto 33 := rfl
theorem k_X8_warm_31 (ca : Nat → ClassId) : k_X8_warm ca 31 = i_push (.int (-10000001)) 33 := rfl
theorem k_X8_warm_33 (ca : Nat → ClassId) : k_X8_warm ca 33 = i_callV 8 1 0 0 0 0 (sp_X8_acted ca) 36 := rfl
theorem k_X8_warm_36 (ca : Nat → ClassId) : k_X8_warm ca 36 = i_ret := rfl
set_option maxHeartbeats 4000000 in
set_option maxRecDepth 20000 in
theorem ok_X8_warm (l : Launch) (D : va_G) (ca : Nat → ClassId) : OkAll l D ca yX8_warm cX8_warm 3 (some .int) 2 0 0 (sp_X8_warm ca) := by
  intro av h post hs
  obtain ⟨m, a, s, p, t, f, n, x, y, rfl, I, ht, hR, hs⟩ := hs
  refine okM_of t_X8_warm (by decide +kernel) (c1_ref (c1_int (c1_int c1_nil))) (Nat.le_of_ble_eq_true rfl) ?_
  intro K go
  have d0 := I.2 0
  obtain ⟨l0, hm0⟩ := hR.m8
  have fin : ∀ lv x h', post (some (.int x)) h' → K 0 0 36 lv [.int x] h' := by
    intro lv x h' hh
    refine goN go (stp []) 160 _ _ _ _ _ _ (fun F hF hF0 => ?_)
    simp only [hF, hF0, ite_not, i_push, i_iload, i_lload, i_aload, i_istore, i_astore, i_lstore, i_iinc, i_bin, i_dv, i_un, i_lbin, i_lsh, i_i2l, i_l2i, i_lcmp, i_dup, i_dup2, i_pop, i_if, i_icmp, i_goto, swG, i_sw, i_getf, i_puti, i_putz, i_putr, i_ald, i_lald, i_aald, i_ast, i_last, i_aast, i_alen, i_new, i_newi, i_newl, i_newq, i_oinit, i_ret, i_zret, i_lret, i_vret, catS, tk, rpush, isO, i_m1, i_m2, i_acopy, i_callV, i_callS, KRet, lget, lput, lputL, lcl0, isL, lv0, List.map_cons, List.map_nil, List.length_cons, List.length_nil, List.cons_append, List.nil_append, Nat.reduceAdd, Nat.reduceSub, Nat.reduceLeDiff, List.replicate_succ, List.replicate_zero, List.getElem?_cons_succ, List.getElem?_cons_zero, List.set_cons_succ, List.set_cons_zero, true_and, and_true, if_true, if_false, ↓reduceIte, Nat.le_refl, Value.category, va_up_app, eq_self, stp, Nat.reduceBEq, Bool.or_false, Bool.false_or, Bool.true_or, Bool.or_true, or_true, true_or, bx_uu, implies_true, true_implies, not_true, not_false_eq_true, false_implies, and_self, Nat.reduceLT, Int32.reduceAdd, Int32.reduceSub, Int32.reduceMul, Int32.reduceLE, Int32.reduceLT, Int32.reduceToNatClampNeg, va_rf_some, Bool.false_eq_true, k_X8_warm_0 ca, k_X8_warm_1 ca, k_X8_warm_4 ca, k_X8_warm_5 ca, k_X8_warm_6 ca, k_X8_warm_9 ca, k_X8_warm_12 ca, k_X8_warm_13 ca, k_X8_warm_16 ca, k_X8_warm_19 ca, k_X8_warm_20 ca, k_X8_warm_21 ca, k_X8_warm_24 ca, k_X8_warm_25 ca, k_X8_warm_28 ca, k_X8_warm_31 ca, k_X8_warm_33 ca, k_X8_warm_36 ca]
    try clear hF hF0 F
    exact hh
  refine goN go (stp [4]) 160 _ _ _ _ _ _ (fun F hF hF0 => ?_)
  simp only [hF, hF0, ite_not, i_push, i_iload, i_lload, i_aload, i_istore, i_astore, i_lstore, i_iinc, i_bin, i_dv, i_un, i_lbin, i_lsh, i_i2l, i_l2i, i_lcmp, i_dup, i_dup2, i_pop, i_if, i_icmp, i_goto, swG, i_sw, i_getf, i_puti, i_putz, i_putr, i_ald, i_lald, i_aald, i_ast, i_last, i_aast, i_alen, i_new, i_newi, i_newl, i_newq, i_oinit, i_ret, i_zret, i_lret, i_vret, catS, tk, rpush, isO, i_m1, i_m2, i_acopy, i_callV, i_callS, KRet, lget, lput, lputL, lcl0, isL, lv0, List.map_cons, List.map_nil, List.length_cons, List.length_nil, List.cons_append, List.nil_append, Nat.reduceAdd, Nat.reduceSub, Nat.reduceLeDiff, List.replicate_succ, List.replicate_zero, List.getElem?_cons_succ, List.getElem?_cons_zero, List.set_cons_succ, List.set_cons_zero, true_and, and_true, if_true, if_false, ↓reduceIte, Nat.le_refl, Value.category, va_up_app, eq_self, stp, Nat.reduceBEq, Bool.or_false, Bool.false_or, Bool.true_or, Bool.or_true, or_true, true_or, bx_uu, implies_true, true_implies, not_true, not_false_eq_true, false_implies, and_self, Nat.reduceLT, Int32.reduceAdd, Int32.reduceSub, Int32.reduceMul, Int32.reduceLE, Int32.reduceLT, Int32.reduceToNatClampNeg, va_rf_some, Bool.false_eq_true, k_X8_warm_0 ca, k_X8_warm_1 ca, k_X8_warm_4 ca, k_X8_warm_5 ca, k_X8_warm_6 ca, k_X8_warm_9 ca, k_X8_warm_12 ca, k_X8_warm_13 ca, k_X8_warm_16 ca, k_X8_warm_19 ca, k_X8_warm_20 ca, k_X8_warm_21 ca, k_X8_warm_24 ca, k_X8_warm_25 ca, k_X8_warm_28 ca, k_X8_warm_31 ca, k_X8_warm_33 ca, k_X8_warm_36 ca, hm0]
  try clear hF hF0 F
  refine begins_of I hR (fun h1 g hg hR1 hS1 => ?_)
  obtain ⟨fm, at', re, bd, kp, ks, iw, ip, fo, em, e0, -⟩ := id hR1
  unfold eMod at em
  unfold aWarm at hs
  cases q1 : isIn x 0 2 with
  | false =>
    rw [q1, if_neg (by decide)] at hs
    refine goN go (stp [36]) 160 _ _ _ _ _ _ (fun F hF hF0 => ?_)
    simp only [hF, hF0, ite_not, i_push, i_iload, i_lload, i_aload, i_istore, i_astore, i_lstore, i_iinc, i_bin, i_dv, i_un, i_lbin, i_lsh, i_i2l, i_l2i, i_lcmp, i_dup, i_dup2, i_pop, i_if, i_icmp, i_goto, swG, i_sw, i_getf, i_puti, i_putz, i_putr, i_ald, i_lald, i_aald, i_ast, i_last, i_aast, i_alen, i_new, i_newi, i_newl, i_newq, i_oinit, i_ret, i_zret, i_lret, i_vret, catS, tk, rpush, isO, i_m1, i_m2, i_acopy, i_callV, i_callS, KRet, lget, lput, lputL, lcl0, isL, lv0, List.map_cons, List.map_nil, List.length_cons, List.length_nil, List.cons_append, List.nil_append, Nat.reduceAdd, Nat.reduceSub, Nat.reduceLeDiff, List.replicate_succ, List.replicate_zero, List.getElem?_cons_succ, List.getElem?_cons_zero, List.set_cons_succ, List.set_cons_zero, true_and, and_true, if_true, if_false, ↓reduceIte, Nat.le_refl, Value.category, va_up_app, eq_self, stp, Nat.reduceBEq, Bool.or_false, Bool.false_or, Bool.true_or, Bool.or_true, or_true, true_or, bx_uu, implies_true, true_implies, not_true, not_false_eq_true, false_implies, and_self, Nat.reduceLT, Int32.reduceAdd, Int32.reduceSub, Int32.reduceMul, Int32.reduceLE, Int32.reduceLT, Int32.reduceToNatClampNeg, va_rf_some, Bool.false_eq_true, k_X8_warm_0 ca, k_X8_warm_1 ca, k_X8_warm_4 ca, k_X8_warm_5 ca, k_X8_warm_6 ca, k_X8_warm_9 ca, k_X8_warm_12 ca, k_X8_warm_13 ca, k_X8_warm_16 ca, k_X8_warm_19 ca, k_X8_warm_20 ca, k_X8_warm_21 ca, k_X8_warm_24 ca, k_X8_warm_25 ca, k_X8_warm_28 ca, k_X8_warm_31 ca, k_X8_warm_33 ca, k_X8_warm_36 ca, sp_X8_isOne, sp_X7_isRoom, q1, b2i_f, em, d0]
    try clear hF hF0 F
    exact acted_R I ht hR1 hg hS1 Eq127.rf ⟨hs.1, fun z => absurd inv_le z⟩ (fun h' => fin _ _ h')
  | true =>
    rw [q1, if_pos rfl] at hs
    cases q2 : isIn y (-500) 1500 with
    | false =>
      rw [q2, if_neg (by decide)] at hs
      refine goN go (stp [36]) 160 _ _ _ _ _ _ (fun F hF hF0 => ?_)
      simp only [hF, hF0, ite_not, i_push, i_iload, i_lload, i_aload, i_istore, i_astore, i_lstore, i_iinc, i_bin, i_dv, i_un, i_lbin, i_lsh, i_i2l, i_l2i, i_lcmp, i_dup, i_dup2, i_pop, i_if, i_icmp, i_goto, swG, i_sw, i_getf, i_puti, i_putz, i_putr, i_ald, i_lald, i_aald, i_ast, i_last, i_aast, i_alen, i_new, i_newi, i_newl, i_newq, i_oinit, i_ret, i_zret, i_lret, i_vret, catS, tk, rpush, isO, i_m1, i_m2, i_acopy, i_callV, i_callS, KRet, lget, lput, lputL, lcl0, isL, lv0, List.map_cons, List.map_nil, List.length_cons, List.length_nil, List.cons_append, List.nil_append, Nat.reduceAdd, Nat.reduceSub, Nat.reduceLeDiff, List.replicate_succ, List.replicate_zero, List.getElem?_cons_succ, List.getElem?_cons_zero, List.set_cons_succ, List.set_cons_zero, true_and, and_true, if_true, if_false, ↓reduceIte, Nat.le_refl, Value.category, va_up_app, eq_self, stp, Nat.reduceBEq, Bool.or_false, Bool.false_or, Bool.true_or, Bool.or_true, or_true, true_or, bx_uu, implies_true, true_implies, not_true, not_false_eq_true, false_implies, and_self, Nat.reduceLT, Int32.reduceAdd, Int32.reduceSub, Int32.reduceMul, Int32.reduceLE, Int32.reduceLT, Int32.reduceToNatClampNeg, va_rf_some, Bool.false_eq_true, k_X8_warm_0 ca, k_X8_warm_1 ca, k_X8_warm_4 ca, k_X8_warm_5 ca, k_X8_warm_6 ca, k_X8_warm_9 ca, k_X8_warm_12 ca, k_X8_warm_13 ca, k_X8_warm_16 ca, k_X8_warm_19 ca, k_X8_warm_20 ca, k_X8_warm_21 ca, k_X8_warm_24 ca, k_X8_warm_25 ca, k_X8_warm_28 ca, k_X8_warm_31 ca, k_X8_warm_33 ca, k_X8_warm_36 ca, sp_X8_isOne, sp_X7_isRoom, sp_X8_isWarmth, sp_X7_isWarmth, q1, q2, b2i_f, b2i_t, one0, em, d0]
      try clear hF hF0 F
      exact acted_R I ht hR1 hg hS1 Eq127.rf ⟨hs.1, fun z => absurd inv_le z⟩ (fun h' => fin _ _ h')
    | true =>
      rw [q2, if_pos rfl] at hs
      obtain ⟨X, hX, rfl⟩ := isIn0 (B := 2) rfl q1
      have xx : (nI X).toNatClampNeg = X := tn127 (by omega)
      have x1 : (nI (106 + 7 * X)).toNatClampNeg = 106 + 7 * X := tn127 (by omega)
      have vx : vp_in (nI (106 + 7 * X)) 127 := vp127 (by omega)
      rw [xx] at hs
      refine goN go (stp [36]) 160 _ _ _ _ _ _ (fun F hF hF0 => ?_)
      simp only [hF, hF0, ite_not, i_push, i_iload, i_lload, i_aload, i_istore, i_astore, i_lstore, i_iinc, i_bin, i_dv, i_un, i_lbin, i_lsh, i_i2l, i_l2i, i_lcmp, i_dup, i_dup2, i_pop, i_if, i_icmp, i_goto, swG, i_sw, i_getf, i_puti, i_putz, i_putr, i_ald, i_lald, i_aald, i_ast, i_last, i_aast, i_alen, i_new, i_newi, i_newl, i_newq, i_oinit, i_ret, i_zret, i_lret, i_vret, catS, tk, rpush, isO, i_m1, i_m2, i_acopy, i_callV, i_callS, KRet, lget, lput, lputL, lcl0, isL, lv0, List.map_cons, List.map_nil, List.length_cons, List.length_nil, List.cons_append, List.nil_append, Nat.reduceAdd, Nat.reduceSub, Nat.reduceLeDiff, List.replicate_succ, List.replicate_zero, List.getElem?_cons_succ, List.getElem?_cons_zero, List.set_cons_succ, List.set_cons_zero, true_and, and_true, if_true, if_false, ↓reduceIte, Nat.le_refl, Value.category, va_up_app, eq_self, stp, Nat.reduceBEq, Bool.or_false, Bool.false_or, Bool.true_or, Bool.or_true, or_true, true_or, bx_uu, implies_true, true_implies, not_true, not_false_eq_true, false_implies, and_self, Nat.reduceLT, Int32.reduceAdd, Int32.reduceSub, Int32.reduceMul, Int32.reduceLE, Int32.reduceLT, Int32.reduceToNatClampNeg, va_rf_some, Bool.false_eq_true, k_X8_warm_0 ca, k_X8_warm_1 ca, k_X8_warm_4 ca, k_X8_warm_5 ca, k_X8_warm_6 ca, k_X8_warm_9 ca, k_X8_warm_12 ca, k_X8_warm_13 ca, k_X8_warm_16 ca, k_X8_warm_19 ca, k_X8_warm_20 ca, k_X8_warm_21 ca, k_X8_warm_24 ca, k_X8_warm_25 ca, k_X8_warm_28 ca, k_X8_warm_31 ca, k_X8_warm_33 ca, k_X8_warm_36 ca, sp_X8_isOne, sp_X7_isRoom, sp_X8_isWarmth, sp_X7_isWarmth, sp_X8_puts, sp_X8_roomAt, s106, q1, q2, b2i_t, one0, x1, vx, em, e0, d0]
      try clear hF hF0 F
      exact acted_R I ht (hR1.s0 I _) hg (hS1.tr (SmR.a (by decide) _)) Eq127.rf hs (fun h' => fin _ _ h')
def sp_X8_set (ca : Nat → ClassId) : SPEC := fun av h post => ∃ m a s p t f n x y, av = [.ref m, .int x, .int y] ∧ RI m a ∧ t ≤ 4 ∧ RAt ca h m a s p t f n ∧ actR ca h m a s p t f n post (aSet s x y) (upd s (6 + x.toNatClampNeg) y)
def k_X8_set (ca : Nat → ClassId) : Nat → IT := fun pc => lk pc [(0, i_aload 0 1),
  (1, i_callV 8 0 0 0 0 0 (sp_X8_begins ca) 4),
  (4, i_iload 1 5),
  (5, i_if (fun x => ¬ x = 0) 18 8),
  (8, i_iload 2 9),
  (9, i_push (.int 0) 10),
  (10, i_push (.int 99) 12),
  (12, i_callS 3 0 0 0 0 (sp_X8_in ca) 15),
  (15, i_if (fun x => ¬ x = 0) 34 18),
  (18, i_iload 1 19),
  (19, i_push (.int 1) 20),
  (20, i_icmp (fun x y => ¬ x = y) 38 23),
  (23, i_iload 2 24),
  (24, i_push (.int 1) 25),
  (25, i_push (.int 999) 28),
  (28, i_callS 3 0 0 0 0 (sp_X8_in ca) 31),
  (31, i_if (fun x => x = 0) 38 34),
  (34, i_push (.int 1) 35),
  (35, i_goto 39),
  (38, i_push (.int 0) 39),
  (39, i_istore 3 40),
  (40, i_aload 0 41),
  (41, i_iload 3 42),
  (42, i_if (fun x => x = 0) 57 45),
  (45, i_aload 0 46),
  (46, i_push (.int 6) 48),
  (48, i_iload 1 49),
  (49, i_bin (fun x y => x + y) 50),
  (50, i_iload 2 51),
  (51, i_callV 8 2 0 0 0 0 (sp_X8_puts ca) 54),
  (54, i_goto 59),
  (57, i_push (.int (-10000001)) 59),
  (59, i_callV 8 1 0 0 0 0 (sp_X8_acted ca) 62),
  (62, i_ret)]
set_option maxRecDepth 20000 in
theorem t_X8_set : Tb k_X8_set yX8_set cX8_set 4 (some .int) 2 0 0 := by
  intro l D ca A p e s m args below meth c post X
  unfold k_X8_set
  refine snd_cons (snd_aload_n X dX8_set_0 rfl) ?_
  refine snd_cons (snd_callV X Fk8 (ok_X8_begins l D ca) rfl rfl w_698 w_700 wp_16 w_9 w_701 (by decide) (by decide) dX8_set_1) ?_
  refine snd_cons (snd_iload_n X dX8_set_4 rfl) ?_
  refine snd_cons (snd_if_ne X dX8_set_5 (by decide)) ?_
  refine snd_cons (snd_iload_n X dX8_set_8 rfl) ?_
  refine snd_cons (snd_iconst X dX8_set_9 (by decide)) ?_
  refine snd_cons (snd_bipush X dX8_set_10 (by decide)) ?_
  refine snd_cons (snd_callS X (ok_X8_in l D ca) rfl rfl w_702 w_703 w_9 w_704 (by decide) (by decide) dX8_set_12) ?_
  refine snd_cons (snd_if_ne X dX8_set_15 (by decide)) ?_
  refine snd_cons (snd_iload_n X dX8_set_18 rfl) ?_
  refine snd_cons (snd_iconst X dX8_set_19 (by decide)) ?_
  refine snd_cons (snd_icmp_ne X dX8_set_20 (by decide)) ?_
  refine snd_cons (snd_iload_n X dX8_set_23 rfl) ?_
  refine snd_cons (snd_iconst X dX8_set_24 (by decide)) ?_
  refine snd_cons (snd_sipush X dX8_set_25 (by decide)) ?_
  refine snd_cons (snd_callS X (ok_X8_in l D ca) rfl rfl w_702 w_703 w_9 w_704 (by decide) (by decide) dX8_set_28) ?_
  refine snd_cons (snd_if_eq X dX8_set_31 (by decide)) ?_
  refine snd_cons (snd_iconst X dX8_set_34 (by decide)) ?_
  refine snd_cons (snd_goto X dX8_set_35 (by decide)) ?_
  refine snd_cons (snd_iconst X dX8_set_38 (by decide)) ?_
  refine snd_cons (snd_istore_n X dX8_set_39 rfl (by decide)) ?_
  refine snd_cons (snd_aload_n X dX8_set_40 rfl) ?_
  refine snd_cons (snd_iload_n X dX8_set_41 rfl) ?_
  refine snd_cons (snd_if_eq X dX8_set_42 (by decide)) ?_
  refine snd_cons (snd_aload_n X dX8_set_45 rfl) ?_
  refine snd_cons (snd_bipush X dX8_set_46 (by decide)) ?_
  refine snd_cons (snd_iload_n X dX8_set_48 rfl) ?_
  refine snd_cons (snd_iadd X dX8_set_49) ?_
  refine snd_cons (snd_iload_n X dX8_set_50 rfl) ?_
  refine snd_cons (snd_callV X Fk8 (ok_X8_puts l D ca) rfl rfl w_705 w_707 wp_17 w_9 w_708 (by decide) (by decide) dX8_set_51) ?_
  refine snd_cons (snd_goto X dX8_set_54 (by decide)) ?_
  refine snd_cons (snd_ldc X w_709 dX8_set_57) ?_
  refine snd_cons (snd_callV X Fk8 (ok_X8_acted l D ca) rfl rfl w_710 w_712 wp_18 w_9 w_713 (by decide) (by decide) dX8_set_59) ?_
  refine snd_cons (snd_ret X dX8_set_62) ?_
  exact snd_nil
theorem k_X8_set_0 (ca : Nat → ClassId) : k_X8_set ca 0 = i_aload 0 1 := rfl
theorem k_X8_set_1 (ca : Nat → ClassId) : k_X8_set ca 1 = i_callV 8 0 0 0 0 0 (sp_X8_begins ca) 4 := rfl
theorem k_X8_set_4 (ca : Nat → ClassId) : k_X8_set ca 4 = i_iload 1 5 := rfl
theorem k_X8_set_5 (ca : Nat → ClassId) : k_X8_set ca 5 = i_if (fun x => ¬ x = 0) 18 8 := rfl
theorem k_X8_set_8 (ca : Nat → ClassId) : k_X8_set ca 8 = i_iload 2 9 := rfl
theorem k_X8_set_9 (ca : Nat → ClassId) : k_X8_set ca 9 = i_push (.int 0) 10 := rfl
theorem k_X8_set_10 (ca : Nat → ClassId) : k_X8_set ca 10 = i_push (.int 99) 12 := rfl
theorem k_X8_set_12 (ca : Nat → ClassId) : k_X8_set ca 12 = i_callS 3 0 0 0 0 (sp_X8_in ca) 15 := rfl
theorem k_X8_set_15 (ca : Nat → ClassId) : k_X8_set ca 15 = i_if (fun x => ¬ x = 0) 34 18 := rfl
theorem k_X8_set_18 (ca : Nat → ClassId) : k_X8_set ca 18 = i_iload 1 19 := rfl
theorem k_X8_set_19 (ca : Nat → ClassId) : k_X8_set ca 19 = i_push (.int 1) 20 := rfl
theorem k_X8_set_20 (ca : Nat → ClassId) : k_X8_set ca 20 = i_icmp (fun x y => ¬ x = y) 38 23 := rfl
theorem k_X8_set_23 (ca : Nat → ClassId) : k_X8_set ca 23 = i_iload 2 24 := rfl
theorem k_X8_set_24 (ca : Nat → ClassId) : k_X8_set ca 24 = i_push (.int 1) 25 := rfl
theorem k_X8_set_25 (ca : Nat → ClassId) : k_X8_set ca 25 = i_push (.int 999) 28 := rfl
theorem k_X8_set_28 (ca : Nat → ClassId) : k_X8_set ca 28 = i_callS 3 0 0 0 0 (sp_X8_in ca) 31 := rfl
theorem k_X8_set_31 (ca : Nat → ClassId) : k_X8_set ca 31 = i_if (fun x => x = 0) 38 34 := rfl
theorem k_X8_set_34 (ca : Nat → ClassId) : k_X8_set ca 34 = i_push (.int 1) 35 := rfl
theorem k_X8_set_35 (ca : Nat → ClassId) : k_X8_set ca 35 = i_goto 39 := rfl
theorem k_X8_set_38 (ca : Nat → ClassId) : k_X8_set ca 38 = i_push (.int 0) 39 := rfl
theorem k_X8_set_39 (ca : Nat → ClassId) : k_X8_set ca 39 = i_istore 3 40 := rfl
theorem k_X8_set_40 (ca : Nat → ClassId) : k_X8_set ca 40 = i_aload 0 41 := rfl
theorem k_X8_set_41 (ca : Nat → ClassId) : k_X8_set ca 41 = i_iload 3 42 := rfl
theorem k_X8_set_42 (ca : Nat → ClassId) : k_X8_set ca 42 = i_if (fun x => x = 0) 57 45 := rfl
theorem k_X8_set_45 (ca : Nat → ClassId) : k_X8_set ca 45 = i_aload 0 46 := rfl
theorem k_X8_set_46 (ca : Nat → ClassId) : k_X8_set ca 46 = i_push (.int 6) 48 := rfl
theorem k_X8_set_48 (ca : Nat → ClassId) : k_X8_set ca 48 = i_iload 1 49 := rfl
theorem k_X8_set_49 (ca : Nat → ClassId) : k_X8_set ca 49 = i_bin (fun x y => x + y) 50 := rfl
theorem k_X8_set_50 (ca : Nat → ClassId) : k_X8_set ca 50 = i_iload 2 51 := rfl
theorem k_X8_set_51 (ca : Nat → ClassId) : k_X8_set ca 51 = i_callV 8 2 0 0 0 0 (sp_X8_puts ca) 54 := rfl
theorem k_X8_set_54 (ca : Nat → ClassId) : k_X8_set ca 54 = i_goto 59 := rfl
theorem k_X8_set_57 (ca : Nat → ClassId) : k_X8_set ca 57 = i_push (.int (-10000001)) 59 := rfl
theorem k_X8_set_59 (ca : Nat → ClassId) : k_X8_set ca 59 = i_callV 8 1 0 0 0 0 (sp_X8_acted ca) 62 := rfl
theorem k_X8_set_62 (ca : Nat → ClassId) : k_X8_set ca 62 = i_ret := rfl
set_option maxHeartbeats 4000000 in
set_option maxRecDepth 20000 in
theorem ok_X8_set (l : Launch) (D : va_G) (ca : Nat → ClassId) : OkAll l D ca yX8_set cX8_set 4 (some .int) 2 0 0 (sp_X8_set ca) := by
  intro av h post hs
  obtain ⟨m, a, s, p, t, f, n, x, y, rfl, I, ht, hR, hs⟩ := hs
  refine okM_of t_X8_set (by decide +kernel) (c1_ref (c1_int (c1_int c1_nil))) (Nat.le_of_ble_eq_true rfl) ?_
  intro K go
  have d0 := I.2 0
  obtain ⟨l0, hm0⟩ := hR.m8
  have fin : ∀ lv x h', post (some (.int x)) h' → K 0 0 62 lv [.int x] h' := by
    intro lv x h' hh
    refine goN go (stp []) 160 _ _ _ _ _ _ (fun F hF hF0 => ?_)
    simp only [hF, hF0, ite_not, i_push, i_iload, i_lload, i_aload, i_istore, i_astore, i_lstore, i_iinc, i_bin, i_dv, i_un, i_lbin, i_lsh, i_i2l, i_l2i, i_lcmp, i_dup, i_dup2, i_pop, i_if, i_icmp, i_goto, swG, i_sw, i_getf, i_puti, i_putz, i_putr, i_ald, i_lald, i_aald, i_ast, i_last, i_aast, i_alen, i_new, i_newi, i_newl, i_newq, i_oinit, i_ret, i_zret, i_lret, i_vret, catS, tk, rpush, isO, i_m1, i_m2, i_acopy, i_callV, i_callS, KRet, lget, lput, lputL, lcl0, isL, lv0, List.map_cons, List.map_nil, List.length_cons, List.length_nil, List.cons_append, List.nil_append, Nat.reduceAdd, Nat.reduceSub, Nat.reduceLeDiff, List.replicate_succ, List.replicate_zero, List.getElem?_cons_succ, List.getElem?_cons_zero, List.set_cons_succ, List.set_cons_zero, true_and, and_true, if_true, if_false, ↓reduceIte, Nat.le_refl, Value.category, va_up_app, eq_self, stp, Nat.reduceBEq, Bool.or_false, Bool.false_or, Bool.true_or, Bool.or_true, or_true, true_or, bx_uu, implies_true, true_implies, not_true, not_false_eq_true, false_implies, and_self, Nat.reduceLT, Int32.reduceAdd, Int32.reduceSub, Int32.reduceMul, Int32.reduceLE, Int32.reduceLT, Int32.reduceToNatClampNeg, va_rf_some, Bool.false_eq_true, k_X8_set_0 ca, k_X8_set_1 ca, k_X8_set_4 ca, k_X8_set_5 ca, k_X8_set_8 ca, k_X8_set_9 ca, k_X8_set_10 ca, k_X8_set_12 ca, k_X8_set_15 ca, k_X8_set_18 ca, k_X8_set_19 ca, k_X8_set_20 ca, k_X8_set_23 ca, k_X8_set_24 ca, k_X8_set_25 ca, k_X8_set_28 ca, k_X8_set_31 ca, k_X8_set_34 ca, k_X8_set_35 ca, k_X8_set_38 ca, k_X8_set_39 ca, k_X8_set_40 ca, k_X8_set_41 ca, k_X8_set_42 ca, k_X8_set_45 ca, k_X8_set_46 ca, k_X8_set_48 ca, k_X8_set_49 ca, k_X8_set_50 ca, k_X8_set_51 ca, k_X8_set_54 ca, k_X8_set_57 ca, k_X8_set_59 ca, k_X8_set_62 ca]
    try clear hF hF0 F
    exact hh
  refine goN go (stp [4]) 160 _ _ _ _ _ _ (fun F hF hF0 => ?_)
  simp only [hF, hF0, ite_not, i_push, i_iload, i_lload, i_aload, i_istore, i_astore, i_lstore, i_iinc, i_bin, i_dv, i_un, i_lbin, i_lsh, i_i2l, i_l2i, i_lcmp, i_dup, i_dup2, i_pop, i_if, i_icmp, i_goto, swG, i_sw, i_getf, i_puti, i_putz, i_putr, i_ald, i_lald, i_aald, i_ast, i_last, i_aast, i_alen, i_new, i_newi, i_newl, i_newq, i_oinit, i_ret, i_zret, i_lret, i_vret, catS, tk, rpush, isO, i_m1, i_m2, i_acopy, i_callV, i_callS, KRet, lget, lput, lputL, lcl0, isL, lv0, List.map_cons, List.map_nil, List.length_cons, List.length_nil, List.cons_append, List.nil_append, Nat.reduceAdd, Nat.reduceSub, Nat.reduceLeDiff, List.replicate_succ, List.replicate_zero, List.getElem?_cons_succ, List.getElem?_cons_zero, List.set_cons_succ, List.set_cons_zero, true_and, and_true, if_true, if_false, ↓reduceIte, Nat.le_refl, Value.category, va_up_app, eq_self, stp, Nat.reduceBEq, Bool.or_false, Bool.false_or, Bool.true_or, Bool.or_true, or_true, true_or, bx_uu, implies_true, true_implies, not_true, not_false_eq_true, false_implies, and_self, Nat.reduceLT, Int32.reduceAdd, Int32.reduceSub, Int32.reduceMul, Int32.reduceLE, Int32.reduceLT, Int32.reduceToNatClampNeg, va_rf_some, Bool.false_eq_true, k_X8_set_0 ca, k_X8_set_1 ca, k_X8_set_4 ca, k_X8_set_5 ca, k_X8_set_8 ca, k_X8_set_9 ca, k_X8_set_10 ca, k_X8_set_12 ca, k_X8_set_15 ca, k_X8_set_18 ca, k_X8_set_19 ca, k_X8_set_20 ca, k_X8_set_23 ca, k_X8_set_24 ca, k_X8_set_25 ca, k_X8_set_28 ca, k_X8_set_31 ca, k_X8_set_34 ca, k_X8_set_35 ca, k_X8_set_38 ca, k_X8_set_39 ca, k_X8_set_40 ca, k_X8_set_41 ca, k_X8_set_42 ca, k_X8_set_45 ca, k_X8_set_46 ca, k_X8_set_48 ca, k_X8_set_49 ca, k_X8_set_50 ca, k_X8_set_51 ca, k_X8_set_54 ca, k_X8_set_57 ca, k_X8_set_59 ca, k_X8_set_62 ca, hm0]
  try clear hF hF0 F
  refine begins_of I hR (fun h1 g hg hR1 hS1 => ?_)
  obtain ⟨fm, at', re, bd, kp, ks, iw, ip, fo, em, e0, -⟩ := id hR1
  unfold eMod at em
  unfold aSet isSet at hs
  by_cases q0 : x = 0
  · subst q0
    rw [if_pos rfl] at hs
    cases q1 : isIn y 0 99 with
    | false =>
      rw [q1, if_neg (by decide)] at hs
      refine goN go (stp [62]) 160 _ _ _ _ _ _ (fun F hF hF0 => ?_)
      simp only [hF, hF0, ite_not, i_push, i_iload, i_lload, i_aload, i_istore, i_astore, i_lstore, i_iinc, i_bin, i_dv, i_un, i_lbin, i_lsh, i_i2l, i_l2i, i_lcmp, i_dup, i_dup2, i_pop, i_if, i_icmp, i_goto, swG, i_sw, i_getf, i_puti, i_putz, i_putr, i_ald, i_lald, i_aald, i_ast, i_last, i_aast, i_alen, i_new, i_newi, i_newl, i_newq, i_oinit, i_ret, i_zret, i_lret, i_vret, catS, tk, rpush, isO, i_m1, i_m2, i_acopy, i_callV, i_callS, KRet, lget, lput, lputL, lcl0, isL, lv0, List.map_cons, List.map_nil, List.length_cons, List.length_nil, List.cons_append, List.nil_append, Nat.reduceAdd, Nat.reduceSub, Nat.reduceLeDiff, List.replicate_succ, List.replicate_zero, List.getElem?_cons_succ, List.getElem?_cons_zero, List.set_cons_succ, List.set_cons_zero, true_and, and_true, if_true, if_false, ↓reduceIte, Nat.le_refl, Value.category, va_up_app, eq_self, stp, Nat.reduceBEq, Bool.or_false, Bool.false_or, Bool.true_or, Bool.or_true, or_true, true_or, bx_uu, implies_true, true_implies, not_true, not_false_eq_true, false_implies, and_self, Nat.reduceLT, Int32.reduceAdd, Int32.reduceSub, Int32.reduceMul, Int32.reduceLE, Int32.reduceLT, Int32.reduceToNatClampNeg, va_rf_some, Bool.false_eq_true, k_X8_set_0 ca, k_X8_set_1 ca, k_X8_set_4 ca, k_X8_set_5 ca, k_X8_set_8 ca, k_X8_set_9 ca, k_X8_set_10 ca, k_X8_set_12 ca, k_X8_set_15 ca, k_X8_set_18 ca, k_X8_set_19 ca, k_X8_set_20 ca, k_X8_set_23 ca, k_X8_set_24 ca, k_X8_set_25 ca, k_X8_set_28 ca, k_X8_set_31 ca, k_X8_set_34 ca, k_X8_set_35 ca, k_X8_set_38 ca, k_X8_set_39 ca, k_X8_set_40 ca, k_X8_set_41 ca, k_X8_set_42 ca, k_X8_set_45 ca, k_X8_set_46 ca, k_X8_set_48 ca, k_X8_set_49 ca, k_X8_set_50 ca, k_X8_set_51 ca, k_X8_set_54 ca, k_X8_set_57 ca, k_X8_set_59 ca, k_X8_set_62 ca, sp_X8_in, sp_X7_isWithin, q1, b2i_f, zero1, em, d0]
      try clear hF hF0 F
      exact acted_R I ht hR1 hg hS1 Eq127.rf ⟨hs.1, fun z => absurd inv_le z⟩ (fun h' => fin _ _ h')
    | true =>
      rw [q1, if_pos rfl] at hs
      refine goN go (stp [62]) 160 _ _ _ _ _ _ (fun F hF hF0 => ?_)
      simp only [hF, hF0, ite_not, i_push, i_iload, i_lload, i_aload, i_istore, i_astore, i_lstore, i_iinc, i_bin, i_dv, i_un, i_lbin, i_lsh, i_i2l, i_l2i, i_lcmp, i_dup, i_dup2, i_pop, i_if, i_icmp, i_goto, swG, i_sw, i_getf, i_puti, i_putz, i_putr, i_ald, i_lald, i_aald, i_ast, i_last, i_aast, i_alen, i_new, i_newi, i_newl, i_newq, i_oinit, i_ret, i_zret, i_lret, i_vret, catS, tk, rpush, isO, i_m1, i_m2, i_acopy, i_callV, i_callS, KRet, lget, lput, lputL, lcl0, isL, lv0, List.map_cons, List.map_nil, List.length_cons, List.length_nil, List.cons_append, List.nil_append, Nat.reduceAdd, Nat.reduceSub, Nat.reduceLeDiff, List.replicate_succ, List.replicate_zero, List.getElem?_cons_succ, List.getElem?_cons_zero, List.set_cons_succ, List.set_cons_zero, true_and, and_true, if_true, if_false, ↓reduceIte, Nat.le_refl, Value.category, va_up_app, eq_self, stp, Nat.reduceBEq, Bool.or_false, Bool.false_or, Bool.true_or, Bool.or_true, or_true, true_or, bx_uu, implies_true, true_implies, not_true, not_false_eq_true, false_implies, and_self, Nat.reduceLT, Int32.reduceAdd, Int32.reduceSub, Int32.reduceMul, Int32.reduceLE, Int32.reduceLT, Int32.reduceToNatClampNeg, va_rf_some, Bool.false_eq_true, k_X8_set_0 ca, k_X8_set_1 ca, k_X8_set_4 ca, k_X8_set_5 ca, k_X8_set_8 ca, k_X8_set_9 ca, k_X8_set_10 ca, k_X8_set_12 ca, k_X8_set_15 ca, k_X8_set_18 ca, k_X8_set_19 ca, k_X8_set_20 ca, k_X8_set_23 ca, k_X8_set_24 ca, k_X8_set_25 ca, k_X8_set_28 ca, k_X8_set_31 ca, k_X8_set_34 ca, k_X8_set_35 ca, k_X8_set_38 ca, k_X8_set_39 ca, k_X8_set_40 ca, k_X8_set_41 ca, k_X8_set_42 ca, k_X8_set_45 ca, k_X8_set_46 ca, k_X8_set_48 ca, k_X8_set_49 ca, k_X8_set_50 ca, k_X8_set_51 ca, k_X8_set_54 ca, k_X8_set_57 ca, k_X8_set_59 ca, k_X8_set_62 ca, sp_X8_in, sp_X7_isWithin, sp_X8_puts, q1, b2i_t, one0, vp_in, or_self, em, e0, d0]
      try clear hF hF0 F
      exact acted_R I ht (hR1.s0 I _) hg (hS1.tr (SmR.a (by decide) _)) Eq127.rf hs (fun h' => fin _ _ h')
  · rw [if_neg q0] at hs
    by_cases q1 : x = 1
    · subst q1
      rw [decide_eq_true rfl, Bool.true_and] at hs
      cases q2 : isIn y 1 999 with
      | false =>
        rw [q2, if_neg (by decide)] at hs
        refine goN go (stp [62]) 160 _ _ _ _ _ _ (fun F hF hF0 => ?_)
        simp only [hF, hF0, ite_not, i_push, i_iload, i_lload, i_aload, i_istore, i_astore, i_lstore, i_iinc, i_bin, i_dv, i_un, i_lbin, i_lsh, i_i2l, i_l2i, i_lcmp, i_dup, i_dup2, i_pop, i_if, i_icmp, i_goto, swG, i_sw, i_getf, i_puti, i_putz, i_putr, i_ald, i_lald, i_aald, i_ast, i_last, i_aast, i_alen, i_new, i_newi, i_newl, i_newq, i_oinit, i_ret, i_zret, i_lret, i_vret, catS, tk, rpush, isO, i_m1, i_m2, i_acopy, i_callV, i_callS, KRet, lget, lput, lputL, lcl0, isL, lv0, List.map_cons, List.map_nil, List.length_cons, List.length_nil, List.cons_append, List.nil_append, Nat.reduceAdd, Nat.reduceSub, Nat.reduceLeDiff, List.replicate_succ, List.replicate_zero, List.getElem?_cons_succ, List.getElem?_cons_zero, List.set_cons_succ, List.set_cons_zero, true_and, and_true, if_true, if_false, ↓reduceIte, Nat.le_refl, Value.category, va_up_app, eq_self, stp, Nat.reduceBEq, Bool.or_false, Bool.false_or, Bool.true_or, Bool.or_true, or_true, true_or, bx_uu, implies_true, true_implies, not_true, not_false_eq_true, false_implies, and_self, Nat.reduceLT, Int32.reduceAdd, Int32.reduceSub, Int32.reduceMul, Int32.reduceLE, Int32.reduceLT, Int32.reduceToNatClampNeg, va_rf_some, Bool.false_eq_true, k_X8_set_0 ca, k_X8_set_1 ca, k_X8_set_4 ca, k_X8_set_5 ca, k_X8_set_8 ca, k_X8_set_9 ca, k_X8_set_10 ca, k_X8_set_12 ca, k_X8_set_15 ca, k_X8_set_18 ca, k_X8_set_19 ca, k_X8_set_20 ca, k_X8_set_23 ca, k_X8_set_24 ca, k_X8_set_25 ca, k_X8_set_28 ca, k_X8_set_31 ca, k_X8_set_34 ca, k_X8_set_35 ca, k_X8_set_38 ca, k_X8_set_39 ca, k_X8_set_40 ca, k_X8_set_41 ca, k_X8_set_42 ca, k_X8_set_45 ca, k_X8_set_46 ca, k_X8_set_48 ca, k_X8_set_49 ca, k_X8_set_50 ca, k_X8_set_51 ca, k_X8_set_54 ca, k_X8_set_57 ca, k_X8_set_59 ca, k_X8_set_62 ca, sp_X8_in, sp_X7_isWithin, q2, b2i_f, one0, em, d0]
        try clear hF hF0 F
        exact acted_R I ht hR1 hg hS1 Eq127.rf ⟨hs.1, fun z => absurd inv_le z⟩ (fun h' => fin _ _ h')
      | true =>
        rw [q2, if_pos rfl] at hs
        refine goN go (stp [62]) 160 _ _ _ _ _ _ (fun F hF hF0 => ?_)
        simp only [hF, hF0, ite_not, i_push, i_iload, i_lload, i_aload, i_istore, i_astore, i_lstore, i_iinc, i_bin, i_dv, i_un, i_lbin, i_lsh, i_i2l, i_l2i, i_lcmp, i_dup, i_dup2, i_pop, i_if, i_icmp, i_goto, swG, i_sw, i_getf, i_puti, i_putz, i_putr, i_ald, i_lald, i_aald, i_ast, i_last, i_aast, i_alen, i_new, i_newi, i_newl, i_newq, i_oinit, i_ret, i_zret, i_lret, i_vret, catS, tk, rpush, isO, i_m1, i_m2, i_acopy, i_callV, i_callS, KRet, lget, lput, lputL, lcl0, isL, lv0, List.map_cons, List.map_nil, List.length_cons, List.length_nil, List.cons_append, List.nil_append, Nat.reduceAdd, Nat.reduceSub, Nat.reduceLeDiff, List.replicate_succ, List.replicate_zero, List.getElem?_cons_succ, List.getElem?_cons_zero, List.set_cons_succ, List.set_cons_zero, true_and, and_true, if_true, if_false, ↓reduceIte, Nat.le_refl, Value.category, va_up_app, eq_self, stp, Nat.reduceBEq, Bool.or_false, Bool.false_or, Bool.true_or, Bool.or_true, or_true, true_or, bx_uu, implies_true, true_implies, not_true, not_false_eq_true, false_implies, and_self, Nat.reduceLT, Int32.reduceAdd, Int32.reduceSub, Int32.reduceMul, Int32.reduceLE, Int32.reduceLT, Int32.reduceToNatClampNeg, va_rf_some, Bool.false_eq_true, k_X8_set_0 ca, k_X8_set_1 ca, k_X8_set_4 ca, k_X8_set_5 ca, k_X8_set_8 ca, k_X8_set_9 ca, k_X8_set_10 ca, k_X8_set_12 ca, k_X8_set_15 ca, k_X8_set_18 ca, k_X8_set_19 ca, k_X8_set_20 ca, k_X8_set_23 ca, k_X8_set_24 ca, k_X8_set_25 ca, k_X8_set_28 ca, k_X8_set_31 ca, k_X8_set_34 ca, k_X8_set_35 ca, k_X8_set_38 ca, k_X8_set_39 ca, k_X8_set_40 ca, k_X8_set_41 ca, k_X8_set_42 ca, k_X8_set_45 ca, k_X8_set_46 ca, k_X8_set_48 ca, k_X8_set_49 ca, k_X8_set_50 ca, k_X8_set_51 ca, k_X8_set_54 ca, k_X8_set_57 ca, k_X8_set_59 ca, k_X8_set_62 ca, sp_X8_in, sp_X7_isWithin, sp_X8_puts, q2, b2i_t, one0, vp_in, or_self, em, e0, d0]
        try clear hF hF0 F
        exact acted_R I ht (hR1.s0 I _) hg (hS1.tr (SmR.a (by decide) _)) Eq127.rf hs (fun h' => fin _ _ h')
    · rw [decide_eq_false q1, Bool.false_and, if_neg (by decide)] at hs
      refine goN go (stp [62]) 160 _ _ _ _ _ _ (fun F hF hF0 => ?_)
      simp only [hF, hF0, ite_not, i_push, i_iload, i_lload, i_aload, i_istore, i_astore, i_lstore, i_iinc, i_bin, i_dv, i_un, i_lbin, i_lsh, i_i2l, i_l2i, i_lcmp, i_dup, i_dup2, i_pop, i_if, i_icmp, i_goto, swG, i_sw, i_getf, i_puti, i_putz, i_putr, i_ald, i_lald, i_aald, i_ast, i_last, i_aast, i_alen, i_new, i_newi, i_newl, i_newq, i_oinit, i_ret, i_zret, i_lret, i_vret, catS, tk, rpush, isO, i_m1, i_m2, i_acopy, i_callV, i_callS, KRet, lget, lput, lputL, lcl0, isL, lv0, List.map_cons, List.map_nil, List.length_cons, List.length_nil, List.cons_append, List.nil_append, Nat.reduceAdd, Nat.reduceSub, Nat.reduceLeDiff, List.replicate_succ, List.replicate_zero, List.getElem?_cons_succ, List.getElem?_cons_zero, List.set_cons_succ, List.set_cons_zero, true_and, and_true, if_true, if_false, ↓reduceIte, Nat.le_refl, Value.category, va_up_app, eq_self, stp, Nat.reduceBEq, Bool.or_false, Bool.false_or, Bool.true_or, Bool.or_true, or_true, true_or, bx_uu, implies_true, true_implies, not_true, not_false_eq_true, false_implies, and_self, Nat.reduceLT, Int32.reduceAdd, Int32.reduceSub, Int32.reduceMul, Int32.reduceLE, Int32.reduceLT, Int32.reduceToNatClampNeg, va_rf_some, Bool.false_eq_true, k_X8_set_0 ca, k_X8_set_1 ca, k_X8_set_4 ca, k_X8_set_5 ca, k_X8_set_8 ca, k_X8_set_9 ca, k_X8_set_10 ca, k_X8_set_12 ca, k_X8_set_15 ca, k_X8_set_18 ca, k_X8_set_19 ca, k_X8_set_20 ca, k_X8_set_23 ca, k_X8_set_24 ca, k_X8_set_25 ca, k_X8_set_28 ca, k_X8_set_31 ca, k_X8_set_34 ca, k_X8_set_35 ca, k_X8_set_38 ca, k_X8_set_39 ca, k_X8_set_40 ca, k_X8_set_41 ca, k_X8_set_42 ca, k_X8_set_45 ca, k_X8_set_46 ca, k_X8_set_48 ca, k_X8_set_49 ca, k_X8_set_50 ca, k_X8_set_51 ca, k_X8_set_54 ca, k_X8_set_57 ca, k_X8_set_59 ca, k_X8_set_62 ca, q0, q1, em, d0]
      try clear hF hF0 F
      exact acted_R I ht hR1 hg hS1 Eq127.rf ⟨hs.1, fun z => absurd inv_le z⟩ (fun h' => fin _ _ h')
