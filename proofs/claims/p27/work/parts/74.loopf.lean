/-! LoopFinder: the table of steps; sameStepOrEnter -/
def hC : Int64 := -7046029254386353131
def hsN (x : Int64) : Nat := (x * -7046029254386353131).toUInt64.toNat / 2 ^ 52
theorem hsN_lt (x : Int64) : hsN x < 4096 := by
  unfold hsN
  have := (x * -7046029254386353131).toUInt64.toNat_lt
  omega
theorem hs_eq (x : Int64) : (x.toUInt64 >>> ((52 : Int32).toInt64.toUInt64 &&& Int64.toUInt64 63)).toInt64.toInt32 = nI (x.toUInt64.toNat / 2 ^ 52) := by
  have e1 : (x.toUInt64 >>> ((52 : Int32).toInt64.toUInt64 &&& Int64.toUInt64 63)).toNat = x.toUInt64.toNat / 2 ^ 52 := by
    rw [UInt64.toNat_shiftRight, show (((52 : Int32).toInt64.toUInt64 &&& Int64.toUInt64 63)).toNat % 64 = 52 from by decide +kernel, Nat.shiftRight_eq_div_pow]
  have e2 : (x.toUInt64 >>> ((52 : Int32).toInt64.toUInt64 &&& Int64.toUInt64 63)) = UInt64.ofNat (x.toUInt64.toNat / 2 ^ 52) := by
    rw [← e1, UInt64.ofNat_toNat]
  rw [e2, UInt64.toInt64_ofNat', Int64.toInt32_ofNat']
  rfl
theorem pigeon : ∀ (n m : Nat) (f : Nat → Nat), (∀ i, i < n → f i < m) → (∀ i j, i < n → j < n → f i = f j → i = j) → n ≤ m := by
  intro n
  induction n with
  | zero => intro m f _ _; omega
  | succ n ih =>
    intro m f h1 h2
    cases m with
    | zero => exact absurd (h1 0 (by omega)) (by omega)
    | succ m =>
      have hn := h1 n (by omega)
      -- swap f n with m
      have := ih m (fun i => if f i = m then f n else f i) (fun i hi => by
        show (if f i = m then f n else f i) < m
        have hi' := h1 i (by omega)
        by_cases q : f i = m
        · rw [if_pos q]
          by_cases q2 : f n = m
          · exact absurd (h2 i n (by omega) (by omega) (q.trans q2.symm)) (by omega)
          · omega
        · rw [if_neg q]; omega) (fun i j hi hj e => by
        have e : (if f i = m then f n else f i) = (if f j = m then f n else f j) := e
        by_cases q : f i = m
        · rw [if_pos q] at e
          by_cases q2 : f j = m
          · exact h2 i j (by omega) (by omega) (q.trans q2.symm)
          · rw [if_neg q2] at e
            exact absurd (h2 n j (by omega) (by omega) e) (by omega)
        · rw [if_neg q] at e
          by_cases q2 : f j = m
          · rw [if_pos q2] at e
            exact absurd (h2 i n (by omega) (by omega) e) (by omega)
          · rw [if_neg q2] at e
            exact h2 i j (by omega) (by omega) e)
      omega
def slt (x : Int64) (d : Nat) : Nat := (hsN x + d) % 4096
theorem slt_lt (x : Int64) (d : Nat) : slt x d < 4096 := Nat.mod_lt _ (by decide)
def TI (T : Nat → Int32) (κ : Nat → Int64) (n : Nat) : Prop := (∀ c, c < 4096 → T c = -1 ∨ ∃ j, j < n ∧ T c = nI j) ∧ (∀ j, j < n → ∃ d, d < 4096 ∧ T (slt (κ j) d) = nI j ∧ ∀ e, e < d → ¬ T (slt (κ j) e) = -1) ∧ (∀ c d, c < 4096 → d < 4096 → ¬ T c = -1 → T c = T d → c = d)
theorem m1_ne {j : Nat} (h : j < 2 ^ 31) : ¬ nI j = -1 := fun z => by
  have h3 : ¬ nI j < 0 := nI_pos h
  rw [z] at h3
  exact h3 (by decide)
theorem slt_inj {x : Int64} {a b : Nat} (ha : a < 4096) (hb : b < 4096) (h : slt x a = slt x b) : a = b := by
  unfold slt at h
  omega
theorem TI_enter {T : Nat → Int32} {κ : Nat → Int64} {n i : Nat} (hn : n ≤ 1500) (hT : TI T κ n) (hi : i < 4096) (he : T (slt (κ n) i) = -1) (hp : ∀ e, e < i → ¬ T (slt (κ n) e) = -1) : TI (upd T (slt (κ n) i) (nI n)) κ (n + 1) := by
  obtain ⟨t1, t2, t3⟩ := hT
  refine ⟨fun c hc => ?_, fun j hj => ?_, fun c d hc hd hne heq => ?_⟩
  · rw [upd_app]
    by_cases q : c = slt (κ n) i
    · rw [if_pos q]; exact Or.inr ⟨n, by omega, rfl⟩
    · rw [if_neg q]
      rcases t1 c hc with z | ⟨j, hj, z⟩
      · exact Or.inl z
      · exact Or.inr ⟨j, by omega, z⟩
  · by_cases q : j = n
    · subst q
      refine ⟨i, hi, by rw [upd_app, if_pos rfl], fun e he2 => ?_⟩
      rw [upd_app]
      by_cases z : slt (κ j) e = slt (κ j) i
      · rw [if_pos z]; exact m1_ne (by omega)
      · rw [if_neg z]; exact hp e he2
    · obtain ⟨d, d1, d2, d3⟩ := t2 j (by omega)
      refine ⟨d, d1, ?_, fun e he2 => ?_⟩
      · rw [upd_app, if_neg (fun z => by rw [z, he] at d2; exact m1_ne (by omega) d2.symm)]; exact d2
      · rw [upd_app]
        by_cases z : slt (κ j) e = slt (κ n) i
        · rw [if_pos z]; exact m1_ne (by omega)
        · rw [if_neg z]; exact d3 e he2
  · rw [upd_app] at hne heq
    rw [upd_app] at heq
    by_cases q1 : c = slt (κ n) i
    · by_cases q2 : d = slt (κ n) i
      · omega
      · rw [if_pos q1, if_neg q2] at heq
        exfalso
        rcases t1 d hd with z | ⟨j, hj, z⟩
        · rw [z] at heq; exact m1_ne (by omega) heq
        · rw [z] at heq
          have := (nI_eq (by omega) (by omega)).mp heq
          omega
    · rw [if_neg q1] at hne heq
      by_cases q2 : d = slt (κ n) i
      · rw [if_pos q2] at heq
        exfalso
        rcases t1 c hc with z | ⟨j, hj, z⟩
        · exact hne z
        · rw [z] at heq
          have := (nI_eq (by omega) (by omega)).mp heq
          omega
      · rw [if_neg q2] at heq
        exact t3 c d hc hd hne heq
/-- an empty slot is met: no former step has the key -/
theorem TI_no {T : Nat → Int32} {κ : Nat → Int64} {n i : Nat} (hn : n ≤ 1500) (hT : TI T κ n) (hp : ∀ e, e < i → ¬ T (slt (κ n) e) = -1 ∧ ∀ j, j < n → T (slt (κ n) e) = nI j → ¬ κ j = κ n) (he : T (slt (κ n) i) = -1) : ∀ j, j < n → ¬ κ j = κ n := by
  intro j hj hk
  obtain ⟨d, d1, d2, d3⟩ := hT.2.1 j hj
  rw [hk] at d2 d3
  rcases Nat.lt_trichotomy d i with z | z | z
  · exact (hp d z).2 j hj d2 hk
  · subst z; rw [he] at d2; exact m1_ne (by omega) d2.symm
  · exact d3 i z he
/-- the table is never full -/
theorem TI_full {T : Nat → Int32} {κ : Nat → Int64} {n : Nat} (hn : n ≤ 1500) (hT : TI T κ n) (hp : ∀ e, e < 4096 → ¬ T (slt (κ n) e) = -1) : False := by
  have h1 : ∀ e, e < 4096 → (T (slt (κ n) e)).toNatClampNeg < n ∧ T (slt (κ n) e) = nI (T (slt (κ n) e)).toNatClampNeg := fun e he => by
    rcases hT.1 _ (slt_lt (κ n) e) with z | ⟨j, hj, z⟩
    · exact absurd z (hp e he)
    · rw [z, nI_clamp (by omega)]; exact ⟨hj, rfl⟩
  have := pigeon 4096 n (fun e => (T (slt (κ n) e)).toNatClampNeg) (fun e he => (h1 e he).1) (fun e f he hf hef => by
    have hef : (T (slt (κ n) e)).toNatClampNeg = (T (slt (κ n) f)).toNatClampNeg := hef
    have h3 : T (slt (κ n) e) = T (slt (κ n) f) := by rw [(h1 e he).2, (h1 f hf).2, hef]
    exact slt_inj he hf (hT.2.2 _ _ (slt_lt _ _) (slt_lt _ _) (hp e he) h3))
  omega
def eLoop (tb kx sx px : Nat) (fo le pe sn : Int32) : va_E := .inr (1, [.ref tb, .ref kx, .ref sx, .ref px, .int fo, .int le, .int pe, .int sn])
theorem ad64 : (63 : Int64) = 63 := rfl
def sp_X1_sameStepOrEnter (ca : Nat → ClassId) : SPEC := fun av h post => ∃ x4 tb kx sx px fo le pe sn kf T κ n, av = [.ref x4, .int (nI n)] ∧ h x4 = some (eLoop tb kx sx px fo le pe sn) ∧ h kx = some (.inl (ca 1, 1501, .inr (.inl kf))) ∧ h px = some (.inl (ca 0, 4096, .inl T)) ∧ n ≤ 1500 ∧ (∀ j, j ≤ n → kf j = κ j) ∧ TI T κ n ∧
  (∀ j, j < n → κ j = κ n → post (some (.int (nI j))) h) ∧ ((∀ j, j < n → ¬ κ j = κ n) → ∀ T', TI T' κ (n + 1) → post (some (.int (-1))) (va_up h px (some (.inl (ca 0, 4096, .inl T')))))
def k_X1_sameStepOrEnter (ca : Nat → ClassId) : Nat → IT := fun pc => lk pc [(0, i_aload 0 1),
  (1, i_getf 1 1 4),
  (4, i_iload 1 5),
  (5, i_lald (ca 1) 6),
  (6, i_lstore 2 7),
  (7, i_lload 2 8),
  (8, i_push (.long (-7046029254386353131)) 11),
  (11, i_lbin (fun x y => x * y) 12),
  (12, i_push (.int 52) 14),
  (14, i_lsh (fun x y => (x.toUInt64 >>> (y.toInt64.toUInt64 &&& Int64.toUInt64 63)).toInt64) 15),
  (15, i_l2i 16),
  (16, i_istore 4 18),
  (18, i_push (.int 0) 19),
  (19, i_istore 5 21),
  (21, i_iload 5 23),
  (23, i_push (.int 4096) 26),
  (26, i_icmp (fun x y => y ≤ x) 85 29),
  (29, i_aload 0 30),
  (30, i_getf 1 3 33),
  (33, i_iload 4 35),
  (35, i_ald (ca 0) 36),
  (36, i_istore 6 38),
  (38, i_iload 6 40),
  (40, i_push (.int (-1)) 41),
  (41, i_icmp (fun x y => ¬ x = y) 54 44),
  (44, i_aload 0 45),
  (45, i_getf 1 3 48),
  (48, i_iload 4 50),
  (50, i_iload 1 51),
  (51, i_ast (fun x => x) (ca 0) 52),
  (52, i_push (.int (-1)) 53),
  (53, i_ret),
  (54, i_aload 0 55),
  (55, i_getf 1 1 58),
  (58, i_iload 6 60),
  (60, i_lald (ca 1) 61),
  (61, i_lload 2 62),
  (62, i_lcmp 63),
  (63, i_if (fun x => ¬ x = 0) 69 66),
  (66, i_iload 6 68),
  (68, i_ret),
  (69, i_iload 4 71),
  (71, i_push (.int 1) 72),
  (72, i_bin (fun x y => x + y) 73),
  (73, i_push (.int 4096) 76),
  (76, i_dv (fun x y => x - x / y * y) 77),
  (77, i_istore 4 79),
  (79, i_iinc 5 1 82),
  (82, i_goto 21),
  (85, i_push (.int (-1)) 86),
  (86, i_ret)]
set_option maxRecDepth 20000 in
theorem t_X1_sameStepOrEnter : Tb k_X1_sameStepOrEnter yX1_sameStepOrEnter cX1_sameStepOrEnter 7 (some .int) 0 0 0 := by
  intro l D ca A p e s m args below meth c post X
  unfold k_X1_sameStepOrEnter
  refine snd_cons (snd_aload_n X dX1_sameStepOrEnter_0 rfl) ?_
  refine snd_cons (snd_getf X Fk1 1 (by decide) w_198 dX1_sameStepOrEnter_1) ?_
  refine snd_cons (snd_iload_n X dX1_sameStepOrEnter_4 rfl) ?_
  refine snd_cons (snd_laload X dX1_sameStepOrEnter_5) ?_
  refine snd_cons (snd_lstore_n X dX1_sameStepOrEnter_6 rfl (by decide)) ?_
  refine snd_cons (snd_lload_n X dX1_sameStepOrEnter_7 rfl) ?_
  refine snd_cons (snd_ldc2 X w_424 dX1_sameStepOrEnter_8) ?_
  refine snd_cons (snd_lmul X dX1_sameStepOrEnter_11) ?_
  refine snd_cons (snd_bipush X dX1_sameStepOrEnter_12 (by decide)) ?_
  refine snd_cons (snd_lushr X dX1_sameStepOrEnter_14) ?_
  refine snd_cons (snd_l2i X dX1_sameStepOrEnter_15) ?_
  refine snd_cons (snd_istore X dX1_sameStepOrEnter_16 (by decide)) ?_
  refine snd_cons (snd_iconst X dX1_sameStepOrEnter_18 (by decide)) ?_
  refine snd_cons (snd_istore X dX1_sameStepOrEnter_19 (by decide)) ?_
  refine snd_cons (snd_iload X dX1_sameStepOrEnter_21) ?_
  refine snd_cons (snd_sipush X dX1_sameStepOrEnter_23 (by decide)) ?_
  refine snd_cons (snd_icmp_ge X dX1_sameStepOrEnter_26 (by decide)) ?_
  refine snd_cons (snd_aload_n X dX1_sameStepOrEnter_29 rfl) ?_
  refine snd_cons (snd_getf X Fk1 3 (by decide) w_200 dX1_sameStepOrEnter_30) ?_
  refine snd_cons (snd_iload X dX1_sameStepOrEnter_33) ?_
  refine snd_cons (snd_iaload X dX1_sameStepOrEnter_35) ?_
  refine snd_cons (snd_istore X dX1_sameStepOrEnter_36 (by decide)) ?_
  refine snd_cons (snd_iload X dX1_sameStepOrEnter_38) ?_
  refine snd_cons (snd_iconst X dX1_sameStepOrEnter_40 (by decide)) ?_
  refine snd_cons (snd_icmp_ne X dX1_sameStepOrEnter_41 (by decide)) ?_
  refine snd_cons (snd_aload_n X dX1_sameStepOrEnter_44 rfl) ?_
  refine snd_cons (snd_getf X Fk1 3 (by decide) w_200 dX1_sameStepOrEnter_45) ?_
  refine snd_cons (snd_iload X dX1_sameStepOrEnter_48) ?_
  refine snd_cons (snd_iload_n X dX1_sameStepOrEnter_50 rfl) ?_
  refine snd_cons (snd_iastore X dX1_sameStepOrEnter_51) ?_
  refine snd_cons (snd_iconst X dX1_sameStepOrEnter_52 (by decide)) ?_
  refine snd_cons (snd_ret X dX1_sameStepOrEnter_53) ?_
  refine snd_cons (snd_aload_n X dX1_sameStepOrEnter_54 rfl) ?_
  refine snd_cons (snd_getf X Fk1 1 (by decide) w_198 dX1_sameStepOrEnter_55) ?_
  refine snd_cons (snd_iload X dX1_sameStepOrEnter_58) ?_
  refine snd_cons (snd_laload X dX1_sameStepOrEnter_60) ?_
  refine snd_cons (snd_lload_n X dX1_sameStepOrEnter_61 rfl) ?_
  refine snd_cons (snd_lcmp X dX1_sameStepOrEnter_62) ?_
  refine snd_cons (snd_if_ne X dX1_sameStepOrEnter_63 (by decide)) ?_
  refine snd_cons (snd_iload X dX1_sameStepOrEnter_66) ?_
  refine snd_cons (snd_ret X dX1_sameStepOrEnter_68) ?_
  refine snd_cons (snd_iload X dX1_sameStepOrEnter_69) ?_
  refine snd_cons (snd_iconst X dX1_sameStepOrEnter_71 (by decide)) ?_
  refine snd_cons (snd_iadd X dX1_sameStepOrEnter_72) ?_
  refine snd_cons (snd_sipush X dX1_sameStepOrEnter_73 (by decide)) ?_
  refine snd_cons (snd_irem X dX1_sameStepOrEnter_76) ?_
  refine snd_cons (snd_istore X dX1_sameStepOrEnter_77 (by decide)) ?_
  refine snd_cons (snd_iinc X dX1_sameStepOrEnter_79 (by decide) (by decide)) ?_
  refine snd_cons (snd_goto X dX1_sameStepOrEnter_82 (by decide)) ?_
  refine snd_cons (snd_iconst X dX1_sameStepOrEnter_85 (by decide)) ?_
  refine snd_cons (snd_ret X dX1_sameStepOrEnter_86) ?_
  exact snd_nil
theorem k_X1_sameStepOrEnter_0 (ca : Nat → ClassId) : k_X1_sameStepOrEnter ca 0 = i_aload 0 1 := rfl
theorem k_X1_sameStepOrEnter_1 (ca : Nat → ClassId) : k_X1_sameStepOrEnter ca 1 = i_getf 1 1 4 := rfl
theorem k_X1_sameStepOrEnter_4 (ca : Nat → ClassId) : k_X1_sameStepOrEnter ca 4 = i_iload 1 5 := rfl
theorem k_X1_sameStepOrEnter_5 (ca : Nat → ClassId) : k_X1_sameStepOrEnter ca 5 = i_lald (ca 1) 6 := rfl
theorem k_X1_sameStepOrEnter_6 (ca : Nat → ClassId) : k_X1_sameStepOrEnter ca 6 = i_lstore 2 7 := rfl
theorem k_X1_sameStepOrEnter_7 (ca : Nat → ClassId) : k_X1_sameStepOrEnter ca 7 = i_lload 2 8 := rfl
theorem k_X1_sameStepOrEnter_8 (ca : Nat → ClassId) : k_X1_sameStepOrEnter ca 8 = i_push (.long (-7046029254386353131)) 11 := rfl
theorem k_X1_sameStepOrEnter_11 (ca : Nat → ClassId) : k_X1_sameStepOrEnter ca 11 = i_lbin (fun x y => x * y) 12 := rfl
theorem k_X1_sameStepOrEnter_12 (ca : Nat → ClassId) : k_X1_sameStepOrEnter ca 12 = i_push (.int 52) 14 := rfl
theorem k_X1_sameStepOrEnter_14 (ca : Nat → ClassId) : k_X1_sameStepOrEnter ca 14 = i_lsh (fun x y => (x.toUInt64 >>> (y.toInt64.toUInt64 &&& Int64.toUInt64 63)).toInt64) 15 := rfl
theorem k_X1_sameStepOrEnter_15 (ca : Nat → ClassId) : k_X1_sameStepOrEnter ca 15 = i_l2i 16 := rfl
theorem k_X1_sameStepOrEnter_16 (ca : Nat → ClassId) : k_X1_sameStepOrEnter ca 16 = i_istore 4 18 := rfl
theorem k_X1_sameStepOrEnter_18 (ca : Nat → ClassId) : k_X1_sameStepOrEnter ca 18 = i_push (.int 0) 19 := rfl
theorem k_X1_sameStepOrEnter_19 (ca : Nat → ClassId) : k_X1_sameStepOrEnter ca 19 = i_istore 5 21 := rfl
theorem k_X1_sameStepOrEnter_21 (ca : Nat → ClassId) : k_X1_sameStepOrEnter ca 21 = i_iload 5 23 := rfl
theorem k_X1_sameStepOrEnter_23 (ca : Nat → ClassId) : k_X1_sameStepOrEnter ca 23 = i_push (.int 4096) 26 := rfl
theorem k_X1_sameStepOrEnter_26 (ca : Nat → ClassId) : k_X1_sameStepOrEnter ca 26 = i_icmp (fun x y => y ≤ x) 85 29 := rfl
theorem k_X1_sameStepOrEnter_29 (ca : Nat → ClassId) : k_X1_sameStepOrEnter ca 29 = i_aload 0 30 := rfl
theorem k_X1_sameStepOrEnter_30 (ca : Nat → ClassId) : k_X1_sameStepOrEnter ca 30 = i_getf 1 3 33 := rfl
theorem k_X1_sameStepOrEnter_33 (ca : Nat → ClassId) : k_X1_sameStepOrEnter ca 33 = i_iload 4 35 := rfl
theorem k_X1_sameStepOrEnter_35 (ca : Nat → ClassId) : k_X1_sameStepOrEnter ca 35 = i_ald (ca 0) 36 := rfl
theorem k_X1_sameStepOrEnter_36 (ca : Nat → ClassId) : k_X1_sameStepOrEnter ca 36 = i_istore 6 38 := rfl
theorem k_X1_sameStepOrEnter_38 (ca : Nat → ClassId) : k_X1_sameStepOrEnter ca 38 = i_iload 6 40 := rfl
theorem k_X1_sameStepOrEnter_40 (ca : Nat → ClassId) : k_X1_sameStepOrEnter ca 40 = i_push (.int (-1)) 41 := rfl
theorem k_X1_sameStepOrEnter_41 (ca : Nat → ClassId) : k_X1_sameStepOrEnter ca 41 = i_icmp (fun x y => ¬ x = y) 54 44 := rfl
theorem k_X1_sameStepOrEnter_44 (ca : Nat → ClassId) : k_X1_sameStepOrEnter ca 44 = i_aload 0 45 := rfl
theorem k_X1_sameStepOrEnter_45 (ca : Nat → ClassId) : k_X1_sameStepOrEnter ca 45 = i_getf 1 3 48 := rfl
theorem k_X1_sameStepOrEnter_48 (ca : Nat → ClassId) : k_X1_sameStepOrEnter ca 48 = i_iload 4 50 := rfl
theorem k_X1_sameStepOrEnter_50 (ca : Nat → ClassId) : k_X1_sameStepOrEnter ca 50 = i_iload 1 51 := rfl
theorem k_X1_sameStepOrEnter_51 (ca : Nat → ClassId) : k_X1_sameStepOrEnter ca 51 = i_ast (fun x => x) (ca 0) 52 := rfl
theorem k_X1_sameStepOrEnter_52 (ca : Nat → ClassId) : k_X1_sameStepOrEnter ca 52 = i_push (.int (-1)) 53 := rfl
theorem k_X1_sameStepOrEnter_53 (ca : Nat → ClassId) : k_X1_sameStepOrEnter ca 53 = i_ret := rfl
theorem k_X1_sameStepOrEnter_54 (ca : Nat → ClassId) : k_X1_sameStepOrEnter ca 54 = i_aload 0 55 := rfl
theorem k_X1_sameStepOrEnter_55 (ca : Nat → ClassId) : k_X1_sameStepOrEnter ca 55 = i_getf 1 1 58 := rfl
theorem k_X1_sameStepOrEnter_58 (ca : Nat → ClassId) : k_X1_sameStepOrEnter ca 58 = i_iload 6 60 := rfl
theorem k_X1_sameStepOrEnter_60 (ca : Nat → ClassId) : k_X1_sameStepOrEnter ca 60 = i_lald (ca 1) 61 := rfl
theorem k_X1_sameStepOrEnter_61 (ca : Nat → ClassId) : k_X1_sameStepOrEnter ca 61 = i_lload 2 62 := rfl
theorem k_X1_sameStepOrEnter_62 (ca : Nat → ClassId) : k_X1_sameStepOrEnter ca 62 = i_lcmp 63 := rfl
theorem k_X1_sameStepOrEnter_63 (ca : Nat → ClassId) : k_X1_sameStepOrEnter ca 63 = i_if (fun x => ¬ x = 0) 69 66 := rfl
theorem k_X1_sameStepOrEnter_66 (ca : Nat → ClassId) : k_X1_sameStepOrEnter ca 66 = i_iload 6 68 := rfl
theorem k_X1_sameStepOrEnter_68 (ca : Nat → ClassId) : k_X1_sameStepOrEnter ca 68 = i_ret := rfl
theorem k_X1_sameStepOrEnter_69 (ca : Nat → ClassId) : k_X1_sameStepOrEnter ca 69 = i_iload 4 71 := rfl
theorem k_X1_sameStepOrEnter_71 (ca : Nat → ClassId) : k_X1_sameStepOrEnter ca 71 = i_push (.int 1) 72 := rfl
theorem k_X1_sameStepOrEnter_72 (ca : Nat → ClassId) : k_X1_sameStepOrEnter ca 72 = i_bin (fun x y => x + y) 73 := rfl
theorem k_X1_sameStepOrEnter_73 (ca : Nat → ClassId) : k_X1_sameStepOrEnter ca 73 = i_push (.int 4096) 76 := rfl
theorem k_X1_sameStepOrEnter_76 (ca : Nat → ClassId) : k_X1_sameStepOrEnter ca 76 = i_dv (fun x y => x - x / y * y) 77 := rfl
theorem k_X1_sameStepOrEnter_77 (ca : Nat → ClassId) : k_X1_sameStepOrEnter ca 77 = i_istore 4 79 := rfl
theorem k_X1_sameStepOrEnter_79 (ca : Nat → ClassId) : k_X1_sameStepOrEnter ca 79 = i_iinc 5 1 82 := rfl
theorem k_X1_sameStepOrEnter_82 (ca : Nat → ClassId) : k_X1_sameStepOrEnter ca 82 = i_goto 21 := rfl
theorem k_X1_sameStepOrEnter_85 (ca : Nat → ClassId) : k_X1_sameStepOrEnter ca 85 = i_push (.int (-1)) 86 := rfl
theorem k_X1_sameStepOrEnter_86 (ca : Nat → ClassId) : k_X1_sameStepOrEnter ca 86 = i_ret := rfl
set_option maxHeartbeats 4000000 in
set_option maxRecDepth 20000 in
theorem ok_X1_sameStepOrEnter (l : Launch) (D : va_G) (ca : Nat → ClassId) : OkAll l D ca yX1_sameStepOrEnter cX1_sameStepOrEnter 7 (some .int) 0 0 0 (sp_X1_sameStepOrEnter ca) := by
  intro av h post hs
  obtain ⟨x4, tb, kx, sx, px, fo, le, pe, sn, kf, T, κ, n, rfl, e0, e1, e2, hn, hk, hT, hA, hB⟩ := hs
  unfold eLoop at e0
  have vn : vp_in (nI n) 1501 := vp_in_nI (by omega) (by decide)
  have xn : (nI n).toNatClampNeg = n := nI_clamp (by omega)
  have kn := hk n (Nat.le_refl _)
  have hH : (hsN (κ n)) % 4096 = hsN (κ n) := Nat.mod_eq_of_lt (hsN_lt _)
  refine okM_of t_X1_sameStepOrEnter (by decide +kernel) (c1_ref (c1_int c1_nil)) (Nat.le_of_ble_eq_true rfl) ?_
  intro K go
  have key : ∀ r i x6, i + r = 4096 → (∀ e, e < i → ¬ T (slt (κ n) e) = -1 ∧ ∀ j, j < n → T (slt (κ n) e) = nI j → ¬ κ j = κ n) → K 0 0 21 [some (.ref x4), some (.int (nI n)), some (.long (κ n)), none, some (.int (nI (slt (κ n) i))), some (.int (nI i)), x6] [] h := by
    intro r
    induction r with
    | zero =>
      intro i x6 hi hp
      have hi : i = 4096 := hi
      subst hi
      exact (TI_full hn hT (fun e he => (hp e he).1)).elim
    | succ r ih =>
      intro i x6 hi hp
      have g1 : ¬ 4096 ≤ nI i := nI_ge (b := 4096) (by omega) (by decide)
      have sl := slt_lt (κ n) i
      have v0 : vp_in (nI (slt (κ n) i)) 4096 := vp_in_nI sl (by decide)
      have v1 : (nI (slt (κ n) i)).toNatClampNeg = slt (κ n) i := nI_clamp (by omega)
      by_cases q : T (slt (κ n) i) = -1
      · have k0 := hB (TI_no hn hT hp q) (upd T (slt (κ n) i) (nI n)) (TI_enter hn hT (by omega) q (fun e he => (hp e he).1))
        refine goN go (stp [21]) 160 _ _ _ _ _ _ (fun F hF hF0 => ?_)
        simp only [hF, hF0, ite_not, i_push, i_iload, i_lload, i_aload, i_istore, i_astore, i_lstore, i_iinc, i_bin, i_dv, i_un, i_lbin, i_lsh, i_i2l, i_l2i, i_lcmp, i_dup, i_dup2, i_pop, i_if, i_icmp, i_goto, swG, i_sw, i_getf, i_puti, i_putz, i_putr, i_ald, i_lald, i_aald, i_ast, i_last, i_aast, i_alen, i_new, i_newi, i_newl, i_newq, i_oinit, i_ret, i_zret, i_lret, i_vret, catS, tk, rpush, isO, i_m1, i_m2, i_acopy, i_callV, i_callS, KRet, lget, lput, lputL, lcl0, isL, lv0, List.map_cons, List.map_nil, List.length_cons, List.length_nil, List.cons_append, List.nil_append, Nat.reduceAdd, Nat.reduceSub, Nat.reduceLeDiff, List.replicate_succ, List.replicate_zero, List.getElem?_cons_succ, List.getElem?_cons_zero, List.set_cons_succ, List.set_cons_zero, true_and, and_true, if_true, if_false, ↓reduceIte, Nat.le_refl, Value.category, va_up_app, eq_self, stp, Nat.reduceBEq, Bool.or_false, Bool.false_or, Bool.true_or, Bool.or_true, or_true, true_or, bx_uu, implies_true, true_implies, not_true, not_false_eq_true, false_implies, and_self, Nat.reduceLT, Int32.reduceAdd, Int32.reduceSub, Int32.reduceMul, Int32.reduceLE, Int32.reduceLT, Int32.reduceToNatClampNeg, va_rf_some, Bool.false_eq_true, k_X1_sameStepOrEnter_0 ca, k_X1_sameStepOrEnter_1 ca, k_X1_sameStepOrEnter_4 ca, k_X1_sameStepOrEnter_5 ca, k_X1_sameStepOrEnter_6 ca, k_X1_sameStepOrEnter_7 ca, k_X1_sameStepOrEnter_8 ca, k_X1_sameStepOrEnter_11 ca, k_X1_sameStepOrEnter_12 ca, k_X1_sameStepOrEnter_14 ca, k_X1_sameStepOrEnter_15 ca, k_X1_sameStepOrEnter_16 ca, k_X1_sameStepOrEnter_18 ca, k_X1_sameStepOrEnter_19 ca, k_X1_sameStepOrEnter_21 ca, k_X1_sameStepOrEnter_23 ca, k_X1_sameStepOrEnter_26 ca, k_X1_sameStepOrEnter_29 ca, k_X1_sameStepOrEnter_30 ca, k_X1_sameStepOrEnter_33 ca, k_X1_sameStepOrEnter_35 ca, k_X1_sameStepOrEnter_36 ca, k_X1_sameStepOrEnter_38 ca, k_X1_sameStepOrEnter_40 ca, k_X1_sameStepOrEnter_41 ca, k_X1_sameStepOrEnter_44 ca, k_X1_sameStepOrEnter_45 ca, k_X1_sameStepOrEnter_48 ca, k_X1_sameStepOrEnter_50 ca, k_X1_sameStepOrEnter_51 ca, k_X1_sameStepOrEnter_52 ca, k_X1_sameStepOrEnter_53 ca, k_X1_sameStepOrEnter_54 ca, k_X1_sameStepOrEnter_55 ca, k_X1_sameStepOrEnter_58 ca, k_X1_sameStepOrEnter_60 ca, k_X1_sameStepOrEnter_61 ca, k_X1_sameStepOrEnter_62 ca, k_X1_sameStepOrEnter_63 ca, k_X1_sameStepOrEnter_66 ca, k_X1_sameStepOrEnter_68 ca, k_X1_sameStepOrEnter_69 ca, k_X1_sameStepOrEnter_71 ca, k_X1_sameStepOrEnter_72 ca, k_X1_sameStepOrEnter_73 ca, k_X1_sameStepOrEnter_76 ca, k_X1_sameStepOrEnter_77 ca, k_X1_sameStepOrEnter_79 ca, k_X1_sameStepOrEnter_82 ca, k_X1_sameStepOrEnter_85 ca, k_X1_sameStepOrEnter_86 ca, e0, e2, g1, v0, v1, q]
        try clear hF hF0 F
        exact k0
      · rcases hT.1 _ sl with z | ⟨j, hj, z⟩
        · exact absurd z q
        · have vj : vp_in (nI j) 1501 := vp_in_nI (by omega) (by decide)
          have xj : (nI j).toNatClampNeg = j := nI_clamp (by omega)
          have kj := hk j (by omega)
          have zj : (nI j = -1) = False := eq_false (m1_ne (by omega))
          by_cases q2 : κ j = κ n
          · have k0 := hA j hj q2
            refine goN go (stp [21]) 160 _ _ _ _ _ _ (fun F hF hF0 => ?_)
            simp only [hF, hF0, ite_not, i_push, i_iload, i_lload, i_aload, i_istore, i_astore, i_lstore, i_iinc, i_bin, i_dv, i_un, i_lbin, i_lsh, i_i2l, i_l2i, i_lcmp, i_dup, i_dup2, i_pop, i_if, i_icmp, i_goto, swG, i_sw, i_getf, i_puti, i_putz, i_putr, i_ald, i_lald, i_aald, i_ast, i_last, i_aast, i_alen, i_new, i_newi, i_newl, i_newq, i_oinit, i_ret, i_zret, i_lret, i_vret, catS, tk, rpush, isO, i_m1, i_m2, i_acopy, i_callV, i_callS, KRet, lget, lput, lputL, lcl0, isL, lv0, List.map_cons, List.map_nil, List.length_cons, List.length_nil, List.cons_append, List.nil_append, Nat.reduceAdd, Nat.reduceSub, Nat.reduceLeDiff, List.replicate_succ, List.replicate_zero, List.getElem?_cons_succ, List.getElem?_cons_zero, List.set_cons_succ, List.set_cons_zero, true_and, and_true, if_true, if_false, ↓reduceIte, Nat.le_refl, Value.category, va_up_app, eq_self, stp, Nat.reduceBEq, Bool.or_false, Bool.false_or, Bool.true_or, Bool.or_true, or_true, true_or, bx_uu, implies_true, true_implies, not_true, not_false_eq_true, false_implies, and_self, Nat.reduceLT, Int32.reduceAdd, Int32.reduceSub, Int32.reduceMul, Int32.reduceLE, Int32.reduceLT, Int32.reduceToNatClampNeg, va_rf_some, Bool.false_eq_true, k_X1_sameStepOrEnter_0 ca, k_X1_sameStepOrEnter_1 ca, k_X1_sameStepOrEnter_4 ca, k_X1_sameStepOrEnter_5 ca, k_X1_sameStepOrEnter_6 ca, k_X1_sameStepOrEnter_7 ca, k_X1_sameStepOrEnter_8 ca, k_X1_sameStepOrEnter_11 ca, k_X1_sameStepOrEnter_12 ca, k_X1_sameStepOrEnter_14 ca, k_X1_sameStepOrEnter_15 ca, k_X1_sameStepOrEnter_16 ca, k_X1_sameStepOrEnter_18 ca, k_X1_sameStepOrEnter_19 ca, k_X1_sameStepOrEnter_21 ca, k_X1_sameStepOrEnter_23 ca, k_X1_sameStepOrEnter_26 ca, k_X1_sameStepOrEnter_29 ca, k_X1_sameStepOrEnter_30 ca, k_X1_sameStepOrEnter_33 ca, k_X1_sameStepOrEnter_35 ca, k_X1_sameStepOrEnter_36 ca, k_X1_sameStepOrEnter_38 ca, k_X1_sameStepOrEnter_40 ca, k_X1_sameStepOrEnter_41 ca, k_X1_sameStepOrEnter_44 ca, k_X1_sameStepOrEnter_45 ca, k_X1_sameStepOrEnter_48 ca, k_X1_sameStepOrEnter_50 ca, k_X1_sameStepOrEnter_51 ca, k_X1_sameStepOrEnter_52 ca, k_X1_sameStepOrEnter_53 ca, k_X1_sameStepOrEnter_54 ca, k_X1_sameStepOrEnter_55 ca, k_X1_sameStepOrEnter_58 ca, k_X1_sameStepOrEnter_60 ca, k_X1_sameStepOrEnter_61 ca, k_X1_sameStepOrEnter_62 ca, k_X1_sameStepOrEnter_63 ca, k_X1_sameStepOrEnter_66 ca, k_X1_sameStepOrEnter_68 ca, k_X1_sameStepOrEnter_69 ca, k_X1_sameStepOrEnter_71 ca, k_X1_sameStepOrEnter_72 ca, k_X1_sameStepOrEnter_73 ca, k_X1_sameStepOrEnter_76 ca, k_X1_sameStepOrEnter_77 ca, k_X1_sameStepOrEnter_79 ca, k_X1_sameStepOrEnter_82 ca, k_X1_sameStepOrEnter_85 ca, k_X1_sameStepOrEnter_86 ca, e0, e1, e2, g1, v0, v1, z, zj, vj, xj, kj, cmpe, q2]
            try clear hF hF0 F
            exact k0
          · have rem : nI (slt (κ n) i) + 1 - (nI (slt (κ n) i) + 1) / 4096 * 4096 = nI (slt (κ n) (i + 1)) := by
              rw [nI_1, show (4096 : Int32) = nI 4096 from rfl, pk_rem (by omega) (by decide) (by decide)]
              refine congrArg nI ?_
              unfold slt
              omega
            have n40 : ¬ (4096 : Int32) = 0 := by decide
            have k0 := ih (i + 1) (some (.int (nI j))) (by omega) (fun e he => by
              by_cases w : e = i
              · subst w
                refine ⟨q, fun j' hj' hz hk' => ?_⟩
                rw [z] at hz
                have := (nI_eq (by omega) (by omega)).mp hz
                subst this
                exact q2 hk'
              · exact hp e (by omega))
            have rem2 : nI (slt (κ n) i + 1) - nI (slt (κ n) i + 1) / 4096 * 4096 = nI (slt (κ n) (i + 1)) := by rw [← nI_1]; exact rem
            refine goN go (stp [21]) 160 _ _ _ _ _ _ (fun F hF hF0 => ?_)
            simp only [hF, hF0, ite_not, i_push, i_iload, i_lload, i_aload, i_istore, i_astore, i_lstore, i_iinc, i_bin, i_dv, i_un, i_lbin, i_lsh, i_i2l, i_l2i, i_lcmp, i_dup, i_dup2, i_pop, i_if, i_icmp, i_goto, swG, i_sw, i_getf, i_puti, i_putz, i_putr, i_ald, i_lald, i_aald, i_ast, i_last, i_aast, i_alen, i_new, i_newi, i_newl, i_newq, i_oinit, i_ret, i_zret, i_lret, i_vret, catS, tk, rpush, isO, i_m1, i_m2, i_acopy, i_callV, i_callS, KRet, lget, lput, lputL, lcl0, isL, lv0, List.map_cons, List.map_nil, List.length_cons, List.length_nil, List.cons_append, List.nil_append, Nat.reduceAdd, Nat.reduceSub, Nat.reduceLeDiff, List.replicate_succ, List.replicate_zero, List.getElem?_cons_succ, List.getElem?_cons_zero, List.set_cons_succ, List.set_cons_zero, true_and, and_true, if_true, if_false, ↓reduceIte, Nat.le_refl, Value.category, va_up_app, eq_self, stp, Nat.reduceBEq, Bool.or_false, Bool.false_or, Bool.true_or, Bool.or_true, or_true, true_or, bx_uu, implies_true, true_implies, not_true, not_false_eq_true, false_implies, and_self, Nat.reduceLT, Int32.reduceAdd, Int32.reduceSub, Int32.reduceMul, Int32.reduceLE, Int32.reduceLT, Int32.reduceToNatClampNeg, va_rf_some, Bool.false_eq_true, k_X1_sameStepOrEnter_0 ca, k_X1_sameStepOrEnter_1 ca, k_X1_sameStepOrEnter_4 ca, k_X1_sameStepOrEnter_5 ca, k_X1_sameStepOrEnter_6 ca, k_X1_sameStepOrEnter_7 ca, k_X1_sameStepOrEnter_8 ca, k_X1_sameStepOrEnter_11 ca, k_X1_sameStepOrEnter_12 ca, k_X1_sameStepOrEnter_14 ca, k_X1_sameStepOrEnter_15 ca, k_X1_sameStepOrEnter_16 ca, k_X1_sameStepOrEnter_18 ca, k_X1_sameStepOrEnter_19 ca, k_X1_sameStepOrEnter_21 ca, k_X1_sameStepOrEnter_23 ca, k_X1_sameStepOrEnter_26 ca, k_X1_sameStepOrEnter_29 ca, k_X1_sameStepOrEnter_30 ca, k_X1_sameStepOrEnter_33 ca, k_X1_sameStepOrEnter_35 ca, k_X1_sameStepOrEnter_36 ca, k_X1_sameStepOrEnter_38 ca, k_X1_sameStepOrEnter_40 ca, k_X1_sameStepOrEnter_41 ca, k_X1_sameStepOrEnter_44 ca, k_X1_sameStepOrEnter_45 ca, k_X1_sameStepOrEnter_48 ca, k_X1_sameStepOrEnter_50 ca, k_X1_sameStepOrEnter_51 ca, k_X1_sameStepOrEnter_52 ca, k_X1_sameStepOrEnter_53 ca, k_X1_sameStepOrEnter_54 ca, k_X1_sameStepOrEnter_55 ca, k_X1_sameStepOrEnter_58 ca, k_X1_sameStepOrEnter_60 ca, k_X1_sameStepOrEnter_61 ca, k_X1_sameStepOrEnter_62 ca, k_X1_sameStepOrEnter_63 ca, k_X1_sameStepOrEnter_66 ca, k_X1_sameStepOrEnter_68 ca, k_X1_sameStepOrEnter_69 ca, k_X1_sameStepOrEnter_71 ca, k_X1_sameStepOrEnter_72 ca, k_X1_sameStepOrEnter_73 ca, k_X1_sameStepOrEnter_76 ca, k_X1_sameStepOrEnter_77 ca, k_X1_sameStepOrEnter_79 ca, k_X1_sameStepOrEnter_82 ca, k_X1_sameStepOrEnter_85 ca, k_X1_sameStepOrEnter_86 ca, e0, e1, e2, g1, v0, v1, z, zj, vj, xj, kj, cmpe, q2, rem2, n40, a_1]
            try clear hF hF0 F
            exact k0
  have k0 := key 4096 0 none (by omega) (fun e he => absurd he (by omega))
  have s0 : slt (κ n) 0 = hsN (κ n) := by unfold slt; rw [Nat.add_zero]; exact hH
  rw [s0, nI_0] at k0
  unfold hsN at k0
  rw [← hs_eq] at k0
  refine goN go (stp [21]) 160 _ _ _ _ _ _ (fun F hF hF0 => ?_)
  simp only [hF, hF0, ite_not, i_push, i_iload, i_lload, i_aload, i_istore, i_astore, i_lstore, i_iinc, i_bin, i_dv, i_un, i_lbin, i_lsh, i_i2l, i_l2i, i_lcmp, i_dup, i_dup2, i_pop, i_if, i_icmp, i_goto, swG, i_sw, i_getf, i_puti, i_putz, i_putr, i_ald, i_lald, i_aald, i_ast, i_last, i_aast, i_alen, i_new, i_newi, i_newl, i_newq, i_oinit, i_ret, i_zret, i_lret, i_vret, catS, tk, rpush, isO, i_m1, i_m2, i_acopy, i_callV, i_callS, KRet, lget, lput, lputL, lcl0, isL, lv0, List.map_cons, List.map_nil, List.length_cons, List.length_nil, List.cons_append, List.nil_append, Nat.reduceAdd, Nat.reduceSub, Nat.reduceLeDiff, List.replicate_succ, List.replicate_zero, List.getElem?_cons_succ, List.getElem?_cons_zero, List.set_cons_succ, List.set_cons_zero, true_and, and_true, if_true, if_false, ↓reduceIte, Nat.le_refl, Value.category, va_up_app, eq_self, stp, Nat.reduceBEq, Bool.or_false, Bool.false_or, Bool.true_or, Bool.or_true, or_true, true_or, bx_uu, implies_true, true_implies, not_true, not_false_eq_true, false_implies, and_self, Nat.reduceLT, Int32.reduceAdd, Int32.reduceSub, Int32.reduceMul, Int32.reduceLE, Int32.reduceLT, Int32.reduceToNatClampNeg, va_rf_some, Bool.false_eq_true, k_X1_sameStepOrEnter_0 ca, k_X1_sameStepOrEnter_1 ca, k_X1_sameStepOrEnter_4 ca, k_X1_sameStepOrEnter_5 ca, k_X1_sameStepOrEnter_6 ca, k_X1_sameStepOrEnter_7 ca, k_X1_sameStepOrEnter_8 ca, k_X1_sameStepOrEnter_11 ca, k_X1_sameStepOrEnter_12 ca, k_X1_sameStepOrEnter_14 ca, k_X1_sameStepOrEnter_15 ca, k_X1_sameStepOrEnter_16 ca, k_X1_sameStepOrEnter_18 ca, k_X1_sameStepOrEnter_19 ca, k_X1_sameStepOrEnter_21 ca, k_X1_sameStepOrEnter_23 ca, k_X1_sameStepOrEnter_26 ca, k_X1_sameStepOrEnter_29 ca, k_X1_sameStepOrEnter_30 ca, k_X1_sameStepOrEnter_33 ca, k_X1_sameStepOrEnter_35 ca, k_X1_sameStepOrEnter_36 ca, k_X1_sameStepOrEnter_38 ca, k_X1_sameStepOrEnter_40 ca, k_X1_sameStepOrEnter_41 ca, k_X1_sameStepOrEnter_44 ca, k_X1_sameStepOrEnter_45 ca, k_X1_sameStepOrEnter_48 ca, k_X1_sameStepOrEnter_50 ca, k_X1_sameStepOrEnter_51 ca, k_X1_sameStepOrEnter_52 ca, k_X1_sameStepOrEnter_53 ca, k_X1_sameStepOrEnter_54 ca, k_X1_sameStepOrEnter_55 ca, k_X1_sameStepOrEnter_58 ca, k_X1_sameStepOrEnter_60 ca, k_X1_sameStepOrEnter_61 ca, k_X1_sameStepOrEnter_62 ca, k_X1_sameStepOrEnter_63 ca, k_X1_sameStepOrEnter_66 ca, k_X1_sameStepOrEnter_68 ca, k_X1_sameStepOrEnter_69 ca, k_X1_sameStepOrEnter_71 ca, k_X1_sameStepOrEnter_72 ca, k_X1_sameStepOrEnter_73 ca, k_X1_sameStepOrEnter_76 ca, k_X1_sameStepOrEnter_77 ca, k_X1_sameStepOrEnter_79 ca, k_X1_sameStepOrEnter_82 ca, k_X1_sameStepOrEnter_85 ca, k_X1_sameStepOrEnter_86 ca, e0, e1, vn, xn, kn]
  try clear hF hF0 F
  exact k0

