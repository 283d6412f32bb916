/-! State: copies -/
theorem ne22 {b : Nat → Nat} (hb : Inj b) {i j : Nat} (h : ¬ i = j) : ¬ b i = b j := fun z => h ((hb i j).mp z)
def cpR (s t : Nat → Int32) (lo n : Nat) : Nat → Int32 := fun j => if lo ≤ j ∧ j < lo + n then t j else s j
theorem ovr_cp {s t : Nat → Int32} {lo n : Nat} : ovr s lo n (fun i => t (lo + i)) = cpR s t lo n := by
  funext j
  unfold ovr cpR
  by_cases h : lo ≤ j ∧ j < lo + n
  · rw [if_pos h, if_pos h]
    exact congrArg t (by omega)
  · rw [if_neg h, if_neg h]
theorem SAt_full0 {ca : Nat → ClassId} {h h' : PH} {b : Nat → Nat} {s t : Nat → Int32} (hS : SAt ca h b s) (hk : ∀ i, i < 22 → (i < 7 ∨ 10 < i) → h' (b i) = h (b i)) (hT : TAt ca h' (b 7) (b 8) (b 9) (b 10) (fun i => t (10 + i))) : SAt ca h' b (cpR s t 10 32) := by
  obtain ⟨x0, ⟨xf1, xa1, xx1⟩, ⟨xf2, xa2, xx2⟩, ⟨xf3, xa3, xx3⟩, ⟨xf4, xa4, xx4⟩, ⟨xf5, xa5⟩, ⟨xf6, xa6⟩, ⟨xt7, ⟨xf8, xa8, xx8⟩, ⟨xf9, xa9, xx9⟩, ⟨xf10, xa10, xx10⟩⟩, xr11, ⟨xt12, ⟨xf13, xa13, xx13⟩, ⟨xf14, xa14, xx14⟩, ⟨xf15, xa15, xx15⟩⟩, xr16, ⟨xt17, ⟨xf18, xa18, xx18⟩, ⟨xf19, xa19, xx19⟩, ⟨xf20, xa20, xx20⟩⟩, xr21⟩ := hS
  have out : ∀ j, (j < 10 ∨ 42 ≤ j) → s j = cpR s t 10 32 j := fun j hj => by unfold cpR; rw [if_neg (by omega)]
  have inn : ∀ j, (10 ≤ j ∧ j < 42) → t j = cpR s t 10 32 j := fun j hj => by unfold cpR; rw [if_pos (by omega)]
  obtain ⟨yt, ⟨yf1, ya1, yx1⟩, ⟨yf2, ya2, yx2⟩, ⟨yf3, ya3, yx3⟩⟩ := hT
  exact ⟨(hk 0 (by decide) (by decide)).trans (x0.trans (congrArg some (eState_cong (out (8) (by omega)) (out (9) (by omega))))),
    ⟨xf1, (hk 1 (by decide) (by decide)).trans xa1, fun i hi => (xx1 i hi).trans (out (i) (by omega))⟩,
    ⟨xf2, (hk 2 (by decide) (by decide)).trans xa2, fun i hi => (xx2 i hi).trans (out (6 + i) (by omega))⟩,
    ⟨xf3, (hk 3 (by decide) (by decide)).trans xa3, xx3⟩,
    ⟨xf4, (hk 4 (by decide) (by decide)).trans xa4, xx4⟩,
    ⟨xf5, (hk 5 (by decide) (by decide)).trans xa5⟩,
    ⟨xf6, (hk 6 (by decide) (by decide)).trans xa6⟩,
    ⟨yt.trans (congrArg some (eStrip_cong (fun i hi => (inn (10 + i) (by omega))))), ⟨yf1, ya1, fun i hi => (yx1 i hi).trans (inn (10 + (8 + 3 * i)) (by omega))⟩, ⟨yf2, ya2, fun i hi => (yx2 i hi).trans (inn (10 + (9 + 3 * i)) (by omega))⟩, ⟨yf3, ya3, fun i hi => (yx3 i hi).trans (inn (10 + (10 + 3 * i)) (by omega))⟩⟩,
    (hk 11 (by decide) (by decide)).trans (xr11.trans (congrArg some (eRoom_cong (fun i hi => (out (106 + i) (by omega)))))),
    ⟨(hk 12 (by decide) (by decide)).trans (xt12.trans (congrArg some (eStrip_cong (fun i hi => (out (42 + i) (by omega)))))), ⟨xf13, (hk 13 (by decide) (by decide)).trans xa13, fun i hi => (xx13 i hi).trans (out (42 + (8 + 3 * i)) (by omega))⟩, ⟨xf14, (hk 14 (by decide) (by decide)).trans xa14, fun i hi => (xx14 i hi).trans (out (42 + (9 + 3 * i)) (by omega))⟩, ⟨xf15, (hk 15 (by decide) (by decide)).trans xa15, fun i hi => (xx15 i hi).trans (out (42 + (10 + 3 * i)) (by omega))⟩⟩,
    (hk 16 (by decide) (by decide)).trans (xr16.trans (congrArg some (eRoom_cong (fun i hi => (out (113 + i) (by omega)))))),
    ⟨(hk 17 (by decide) (by decide)).trans (xt17.trans (congrArg some (eStrip_cong (fun i hi => (out (74 + i) (by omega)))))), ⟨xf18, (hk 18 (by decide) (by decide)).trans xa18, fun i hi => (xx18 i hi).trans (out (74 + (8 + 3 * i)) (by omega))⟩, ⟨xf19, (hk 19 (by decide) (by decide)).trans xa19, fun i hi => (xx19 i hi).trans (out (74 + (9 + 3 * i)) (by omega))⟩, ⟨xf20, (hk 20 (by decide) (by decide)).trans xa20, fun i hi => (xx20 i hi).trans (out (74 + (10 + 3 * i)) (by omega))⟩⟩,
    (hk 21 (by decide) (by decide)).trans (xr21.trans (congrArg some (eRoom_cong (fun i hi => (out (120 + i) (by omega))))))⟩
theorem SAt_full1 {ca : Nat → ClassId} {h h' : PH} {b : Nat → Nat} {s t : Nat → Int32} (hS : SAt ca h b s) (hk : ∀ i, i < 22 → (i < 12 ∨ 15 < i) → h' (b i) = h (b i)) (hT : TAt ca h' (b 12) (b 13) (b 14) (b 15) (fun i => t (42 + i))) : SAt ca h' b (cpR s t 42 32) := by
  obtain ⟨x0, ⟨xf1, xa1, xx1⟩, ⟨xf2, xa2, xx2⟩, ⟨xf3, xa3, xx3⟩, ⟨xf4, xa4, xx4⟩, ⟨xf5, xa5⟩, ⟨xf6, xa6⟩, ⟨xt7, ⟨xf8, xa8, xx8⟩, ⟨xf9, xa9, xx9⟩, ⟨xf10, xa10, xx10⟩⟩, xr11, ⟨xt12, ⟨xf13, xa13, xx13⟩, ⟨xf14, xa14, xx14⟩, ⟨xf15, xa15, xx15⟩⟩, xr16, ⟨xt17, ⟨xf18, xa18, xx18⟩, ⟨xf19, xa19, xx19⟩, ⟨xf20, xa20, xx20⟩⟩, xr21⟩ := hS
  have out : ∀ j, (j < 42 ∨ 74 ≤ j) → s j = cpR s t 42 32 j := fun j hj => by unfold cpR; rw [if_neg (by omega)]
  have inn : ∀ j, (42 ≤ j ∧ j < 74) → t j = cpR s t 42 32 j := fun j hj => by unfold cpR; rw [if_pos (by omega)]
  obtain ⟨yt, ⟨yf1, ya1, yx1⟩, ⟨yf2, ya2, yx2⟩, ⟨yf3, ya3, yx3⟩⟩ := hT
  exact ⟨(hk 0 (by decide) (by decide)).trans (x0.trans (congrArg some (eState_cong (out (8) (by omega)) (out (9) (by omega))))),
    ⟨xf1, (hk 1 (by decide) (by decide)).trans xa1, fun i hi => (xx1 i hi).trans (out (i) (by omega))⟩,
    ⟨xf2, (hk 2 (by decide) (by decide)).trans xa2, fun i hi => (xx2 i hi).trans (out (6 + i) (by omega))⟩,
    ⟨xf3, (hk 3 (by decide) (by decide)).trans xa3, xx3⟩,
    ⟨xf4, (hk 4 (by decide) (by decide)).trans xa4, xx4⟩,
    ⟨xf5, (hk 5 (by decide) (by decide)).trans xa5⟩,
    ⟨xf6, (hk 6 (by decide) (by decide)).trans xa6⟩,
    ⟨(hk 7 (by decide) (by decide)).trans (xt7.trans (congrArg some (eStrip_cong (fun i hi => (out (10 + i) (by omega)))))), ⟨xf8, (hk 8 (by decide) (by decide)).trans xa8, fun i hi => (xx8 i hi).trans (out (10 + (8 + 3 * i)) (by omega))⟩, ⟨xf9, (hk 9 (by decide) (by decide)).trans xa9, fun i hi => (xx9 i hi).trans (out (10 + (9 + 3 * i)) (by omega))⟩, ⟨xf10, (hk 10 (by decide) (by decide)).trans xa10, fun i hi => (xx10 i hi).trans (out (10 + (10 + 3 * i)) (by omega))⟩⟩,
    (hk 11 (by decide) (by decide)).trans (xr11.trans (congrArg some (eRoom_cong (fun i hi => (out (106 + i) (by omega)))))),
    ⟨yt.trans (congrArg some (eStrip_cong (fun i hi => (inn (42 + i) (by omega))))), ⟨yf1, ya1, fun i hi => (yx1 i hi).trans (inn (42 + (8 + 3 * i)) (by omega))⟩, ⟨yf2, ya2, fun i hi => (yx2 i hi).trans (inn (42 + (9 + 3 * i)) (by omega))⟩, ⟨yf3, ya3, fun i hi => (yx3 i hi).trans (inn (42 + (10 + 3 * i)) (by omega))⟩⟩,
    (hk 16 (by decide) (by decide)).trans (xr16.trans (congrArg some (eRoom_cong (fun i hi => (out (113 + i) (by omega)))))),
    ⟨(hk 17 (by decide) (by decide)).trans (xt17.trans (congrArg some (eStrip_cong (fun i hi => (out (74 + i) (by omega)))))), ⟨xf18, (hk 18 (by decide) (by decide)).trans xa18, fun i hi => (xx18 i hi).trans (out (74 + (8 + 3 * i)) (by omega))⟩, ⟨xf19, (hk 19 (by decide) (by decide)).trans xa19, fun i hi => (xx19 i hi).trans (out (74 + (9 + 3 * i)) (by omega))⟩, ⟨xf20, (hk 20 (by decide) (by decide)).trans xa20, fun i hi => (xx20 i hi).trans (out (74 + (10 + 3 * i)) (by omega))⟩⟩,
    (hk 21 (by decide) (by decide)).trans (xr21.trans (congrArg some (eRoom_cong (fun i hi => (out (120 + i) (by omega))))))⟩
theorem SAt_full2 {ca : Nat → ClassId} {h h' : PH} {b : Nat → Nat} {s t : Nat → Int32} (hS : SAt ca h b s) (hk : ∀ i, i < 22 → (i < 17 ∨ 20 < i) → h' (b i) = h (b i)) (hT : TAt ca h' (b 17) (b 18) (b 19) (b 20) (fun i => t (74 + i))) : SAt ca h' b (cpR s t 74 32) := by
  obtain ⟨x0, ⟨xf1, xa1, xx1⟩, ⟨xf2, xa2, xx2⟩, ⟨xf3, xa3, xx3⟩, ⟨xf4, xa4, xx4⟩, ⟨xf5, xa5⟩, ⟨xf6, xa6⟩, ⟨xt7, ⟨xf8, xa8, xx8⟩, ⟨xf9, xa9, xx9⟩, ⟨xf10, xa10, xx10⟩⟩, xr11, ⟨xt12, ⟨xf13, xa13, xx13⟩, ⟨xf14, xa14, xx14⟩, ⟨xf15, xa15, xx15⟩⟩, xr16, ⟨xt17, ⟨xf18, xa18, xx18⟩, ⟨xf19, xa19, xx19⟩, ⟨xf20, xa20, xx20⟩⟩, xr21⟩ := hS
  have out : ∀ j, (j < 74 ∨ 106 ≤ j) → s j = cpR s t 74 32 j := fun j hj => by unfold cpR; rw [if_neg (by omega)]
  have inn : ∀ j, (74 ≤ j ∧ j < 106) → t j = cpR s t 74 32 j := fun j hj => by unfold cpR; rw [if_pos (by omega)]
  obtain ⟨yt, ⟨yf1, ya1, yx1⟩, ⟨yf2, ya2, yx2⟩, ⟨yf3, ya3, yx3⟩⟩ := hT
  exact ⟨(hk 0 (by decide) (by decide)).trans (x0.trans (congrArg some (eState_cong (out (8) (by omega)) (out (9) (by omega))))),
    ⟨xf1, (hk 1 (by decide) (by decide)).trans xa1, fun i hi => (xx1 i hi).trans (out (i) (by omega))⟩,
    ⟨xf2, (hk 2 (by decide) (by decide)).trans xa2, fun i hi => (xx2 i hi).trans (out (6 + i) (by omega))⟩,
    ⟨xf3, (hk 3 (by decide) (by decide)).trans xa3, xx3⟩,
    ⟨xf4, (hk 4 (by decide) (by decide)).trans xa4, xx4⟩,
    ⟨xf5, (hk 5 (by decide) (by decide)).trans xa5⟩,
    ⟨xf6, (hk 6 (by decide) (by decide)).trans xa6⟩,
    ⟨(hk 7 (by decide) (by decide)).trans (xt7.trans (congrArg some (eStrip_cong (fun i hi => (out (10 + i) (by omega)))))), ⟨xf8, (hk 8 (by decide) (by decide)).trans xa8, fun i hi => (xx8 i hi).trans (out (10 + (8 + 3 * i)) (by omega))⟩, ⟨xf9, (hk 9 (by decide) (by decide)).trans xa9, fun i hi => (xx9 i hi).trans (out (10 + (9 + 3 * i)) (by omega))⟩, ⟨xf10, (hk 10 (by decide) (by decide)).trans xa10, fun i hi => (xx10 i hi).trans (out (10 + (10 + 3 * i)) (by omega))⟩⟩,
    (hk 11 (by decide) (by decide)).trans (xr11.trans (congrArg some (eRoom_cong (fun i hi => (out (106 + i) (by omega)))))),
    ⟨(hk 12 (by decide) (by decide)).trans (xt12.trans (congrArg some (eStrip_cong (fun i hi => (out (42 + i) (by omega)))))), ⟨xf13, (hk 13 (by decide) (by decide)).trans xa13, fun i hi => (xx13 i hi).trans (out (42 + (8 + 3 * i)) (by omega))⟩, ⟨xf14, (hk 14 (by decide) (by decide)).trans xa14, fun i hi => (xx14 i hi).trans (out (42 + (9 + 3 * i)) (by omega))⟩, ⟨xf15, (hk 15 (by decide) (by decide)).trans xa15, fun i hi => (xx15 i hi).trans (out (42 + (10 + 3 * i)) (by omega))⟩⟩,
    (hk 16 (by decide) (by decide)).trans (xr16.trans (congrArg some (eRoom_cong (fun i hi => (out (113 + i) (by omega)))))),
    ⟨yt.trans (congrArg some (eStrip_cong (fun i hi => (inn (74 + i) (by omega))))), ⟨yf1, ya1, fun i hi => (yx1 i hi).trans (inn (74 + (8 + 3 * i)) (by omega))⟩, ⟨yf2, ya2, fun i hi => (yx2 i hi).trans (inn (74 + (9 + 3 * i)) (by omega))⟩, ⟨yf3, ya3, fun i hi => (yx3 i hi).trans (inn (74 + (10 + 3 * i)) (by omega))⟩⟩,
    (hk 21 (by decide) (by decide)).trans (xr21.trans (congrArg some (eRoom_cong (fun i hi => (out (120 + i) (by omega))))))⟩
def BoS (t : Nat → Int32) : Prop := (t 14 = 0 ∨ t 14 = 1) ∧ (t 46 = 0 ∨ t 46 = 1) ∧ (t 78 = 0 ∨ t 78 = 1) ∧ (t 109 = 0 ∨ t 109 = 1) ∧ (t 116 = 0 ∨ t 116 = 1) ∧ (t 123 = 0 ∨ t 123 = 1)
def sp_X4_copyFrom (ca : Nat → ClassId) : SPEC := fun av h post => ∃ b c s t, av = [.ref (b 0), .ref (c 0)] ∧ Inj b ∧ Inj c ∧ Dis b c ∧ SAt ca h b s ∧ SAt ca h c t ∧ BoS t ∧ ∀ h', SAt ca h' b t → Same b h h' → post none h'
theorem Same_kept {b c : Nat → Nat} (hbc : Dis b c) {h h' : PH} (hm : Same b h h') : ∀ j, j < 22 → h' (c j) = h (c j) := fun j hj => hm _ (fun i hi z => (hbc i j hi hj).mp z.symm)
theorem cpy8 {f g e : Nat → Int32} (he : ∀ i, i < 8 → f i = e i) : ∀ i, i < 8 → va_cpy f g 0 0 8 i = e i := by
  intro i hi
  rw [pk_cpy_in (by omega) (by omega), Nat.sub_zero, Nat.zero_add]
  exact he i hi
theorem cpyN {f g e : Nat → Int32} {n : Nat} (he : ∀ i, i < n → f i = e i) : ∀ i, i < n → va_cpy f g 0 0 n i = e i := by
  intro i hi
  rw [pk_cpy_in (by omega) (by omega), Nat.sub_zero, Nat.zero_add]
  exact he i hi
theorem SAt_num2 {ca : Nat → ClassId} {h : PH} {b : Nat → Nat} {s t f : Nat → Int32} (hb : Inj b) (hS : SAt ca h b s) (hf : ∀ i, i < 6 → f i = t i) : SAt ca (va_up h (b 1) (some (.inl (ca 0, 6, .inl f)))) b (cpR s t 0 6) := by
  refine SAt_cong (SAt_num hb hS f) (fun j _ => ?_)
  unfold ovr cpR
  by_cases q : 0 ≤ j ∧ j < 0 + 6
  · rw [if_pos q, if_pos q, Nat.sub_zero]; exact hf j (by omega)
  · rw [if_neg q, if_neg q]
theorem SAt_set2 {ca : Nat → ClassId} {h : PH} {b : Nat → Nat} {s t f : Nat → Int32} (hb : Inj b) (hS : SAt ca h b s) (hf : ∀ i, i < 2 → f i = t (6 + i)) : SAt ca (va_up h (b 2) (some (.inl (ca 0, 2, .inl f)))) b (cpR s t 6 2) := by
  refine SAt_cong (SAt_set hb hS f) (fun j _ => ?_)
  unfold ovr cpR
  by_cases q : 6 ≤ j ∧ j < 6 + 2
  · rw [if_pos q, if_pos q, hf (j - 6) (by omega)]; exact congrArg t (by omega)
  · rw [if_neg q, if_neg q]
theorem tn6 : (6 : Int32).toNatClampNeg = 6 := rfl
theorem tn2 : (2 : Int32).toNatClampNeg = 2 := rfl
theorem tn1 : (1 : Int32).toNatClampNeg = 1 := rfl
def k_X4_copyFrom (ca : Nat → ClassId) : Nat → IT := fun pc => lk pc [(0, i_aload 1 1),
  (1, i_getf 4 0 4),
  (4, i_push (.int 0) 5),
  (5, i_aload 0 6),
  (6, i_getf 4 0 9),
  (9, i_push (.int 0) 10),
  (10, i_push (.int 6) 12),
  (12, i_acopy (ca 0) 15),
  (15, i_aload 1 16),
  (16, i_getf 4 1 19),
  (19, i_push (.int 0) 20),
  (20, i_aload 0 21),
  (21, i_getf 4 1 24),
  (24, i_push (.int 0) 25),
  (25, i_push (.int 2) 26),
  (26, i_acopy (ca 0) 29),
  (29, i_push (.int 0) 30),
  (30, i_istore 2 31),
  (31, i_iload 2 32),
  (32, i_push (.int 3) 33),
  (33, i_icmp (fun x y => y ≤ x) 72 36),
  (36, i_aload 0 37),
  (37, i_getf 4 2 40),
  (40, i_iload 2 41),
  (41, i_aald (ca 6) 42),
  (42, i_aload 1 43),
  (43, i_getf 4 2 46),
  (46, i_iload 2 47),
  (47, i_aald (ca 6) 48),
  (48, i_callV 5 1 0 0 0 0 (sp_X5_copyFrom ca) 51),
  (51, i_aload 0 52),
  (52, i_getf 4 3 55),
  (55, i_iload 2 56),
  (56, i_aald (ca 4) 57),
  (57, i_aload 1 58),
  (58, i_getf 4 3 61),
  (61, i_iload 2 62),
  (62, i_aald (ca 4) 63),
  (63, i_callV 2 1 0 0 0 0 (sp_X2_copyFrom ca) 66),
  (66, i_iinc 2 1 69),
  (69, i_goto 31),
  (72, i_aload 0 73),
  (73, i_aload 1 74),
  (74, i_getf 4 4 77),
  (77, i_puti 4 4 80),
  (80, i_aload 0 81),
  (81, i_aload 1 82),
  (82, i_getf 4 5 85),
  (85, i_puti 4 5 88),
  (88, i_vret)]
set_option maxRecDepth 20000 in
theorem t_X4_copyFrom : Tb k_X4_copyFrom yX4_copyFrom cX4_copyFrom 3 none 2 0 0 := by
  intro l D ca A p e s m args below meth c post X
  unfold k_X4_copyFrom
  refine snd_cons (snd_aload_n X dX4_copyFrom_0 rfl) ?_
  refine snd_cons (snd_getf X Fk4 0 (by decide) w_122 dX4_copyFrom_1) ?_
  refine snd_cons (snd_iconst X dX4_copyFrom_4 (by decide)) ?_
  refine snd_cons (snd_aload_n X dX4_copyFrom_5 rfl) ?_
  refine snd_cons (snd_getf X Fk4 0 (by decide) w_122 dX4_copyFrom_6) ?_
  refine snd_cons (snd_iconst X dX4_copyFrom_9 (by decide)) ?_
  refine snd_cons (snd_bipush X dX4_copyFrom_10 (by decide)) ?_
  refine snd_cons (snd_acopy X w_298 w_300 w_299 w_10 (by decide) (by decide) dX4_copyFrom_12) ?_
  refine snd_cons (snd_aload_n X dX4_copyFrom_15 rfl) ?_
  refine snd_cons (snd_getf X Fk4 1 (by decide) w_124 dX4_copyFrom_16) ?_
  refine snd_cons (snd_iconst X dX4_copyFrom_19 (by decide)) ?_
  refine snd_cons (snd_aload_n X dX4_copyFrom_20 rfl) ?_
  refine snd_cons (snd_getf X Fk4 1 (by decide) w_124 dX4_copyFrom_21) ?_
  refine snd_cons (snd_iconst X dX4_copyFrom_24 (by decide)) ?_
  refine snd_cons (snd_iconst X dX4_copyFrom_25 (by decide)) ?_
  refine snd_cons (snd_acopy X w_298 w_300 w_299 w_10 (by decide) (by decide) dX4_copyFrom_26) ?_
  refine snd_cons (snd_iconst X dX4_copyFrom_29 (by decide)) ?_
  refine snd_cons (snd_istore_n X dX4_copyFrom_30 rfl (by decide)) ?_
  refine snd_cons (snd_iload_n X dX4_copyFrom_31 rfl) ?_
  refine snd_cons (snd_iconst X dX4_copyFrom_32 (by decide)) ?_
  refine snd_cons (snd_icmp_ge X dX4_copyFrom_33 (by decide)) ?_
  refine snd_cons (snd_aload_n X dX4_copyFrom_36 rfl) ?_
  refine snd_cons (snd_getf X Fk4 2 (by decide) w_127 dX4_copyFrom_37) ?_
  refine snd_cons (snd_iload_n X dX4_copyFrom_40 rfl) ?_
  refine snd_cons (snd_aaload X 6 rfl dX4_copyFrom_41) ?_
  refine snd_cons (snd_aload_n X dX4_copyFrom_42 rfl) ?_
  refine snd_cons (snd_getf X Fk4 2 (by decide) w_127 dX4_copyFrom_43) ?_
  refine snd_cons (snd_iload_n X dX4_copyFrom_46 rfl) ?_
  refine snd_cons (snd_aaload X 6 rfl dX4_copyFrom_47) ?_
  refine snd_cons (snd_callV X Fk5 (ok_X5_copyFrom l D ca) rfl rfl w_301 w_302 w_303 w_3 w_304 (by decide) (by decide) dX4_copyFrom_48) ?_
  refine snd_cons (snd_aload_n X dX4_copyFrom_51 rfl) ?_
  refine snd_cons (snd_getf X Fk4 3 (by decide) w_129 dX4_copyFrom_52) ?_
  refine snd_cons (snd_iload_n X dX4_copyFrom_55 rfl) ?_
  refine snd_cons (snd_aaload X 4 rfl dX4_copyFrom_56) ?_
  refine snd_cons (snd_aload_n X dX4_copyFrom_57 rfl) ?_
  refine snd_cons (snd_getf X Fk4 3 (by decide) w_129 dX4_copyFrom_58) ?_
  refine snd_cons (snd_iload_n X dX4_copyFrom_61 rfl) ?_
  refine snd_cons (snd_aaload X 4 rfl dX4_copyFrom_62) ?_
  refine snd_cons (snd_callV X Fk2 (ok_X2_copyFrom l D ca) rfl rfl w_306 w_307 w_308 w_4 w_309 (by decide) (by decide) dX4_copyFrom_63) ?_
  refine snd_cons (snd_iinc X dX4_copyFrom_66 (by decide) (by decide)) ?_
  refine snd_cons (snd_goto X dX4_copyFrom_69 (by decide)) ?_
  refine snd_cons (snd_aload_n X dX4_copyFrom_72 rfl) ?_
  refine snd_cons (snd_aload_n X dX4_copyFrom_73 rfl) ?_
  refine snd_cons (snd_getf X Fk4 4 (by decide) w_131 dX4_copyFrom_74) ?_
  refine snd_cons (snd_puti X Fk4 4 (by decide) rfl rfl w_131 dX4_copyFrom_77) ?_
  refine snd_cons (snd_aload_n X dX4_copyFrom_80 rfl) ?_
  refine snd_cons (snd_aload_n X dX4_copyFrom_81 rfl) ?_
  refine snd_cons (snd_getf X Fk4 5 (by decide) w_133 dX4_copyFrom_82) ?_
  refine snd_cons (snd_puti X Fk4 5 (by decide) rfl rfl w_133 dX4_copyFrom_85) ?_
  refine snd_cons (snd_vret X dX4_copyFrom_88) ?_
  exact snd_nil
theorem k_X4_copyFrom_0 (ca : Nat → ClassId) : k_X4_copyFrom ca 0 = i_aload 1 1 := rfl
theorem k_X4_copyFrom_1 (ca : Nat → ClassId) : k_X4_copyFrom ca 1 = i_getf 4 0 4 := rfl
theorem k_X4_copyFrom_4 (ca : Nat → ClassId) : k_X4_copyFrom ca 4 = i_push (.int 0) 5 := rfl
theorem k_X4_copyFrom_5 (ca : Nat → ClassId) : k_X4_copyFrom ca 5 = i_aload 0 6 := rfl
theorem k_X4_copyFrom_6 (ca : Nat → ClassId) : k_X4_copyFrom ca 6 = i_getf 4 0 9 := rfl
theorem k_X4_copyFrom_9 (ca : Nat → ClassId) : k_X4_copyFrom ca 9 = i_push (.int 0) 10 := rfl
theorem k_X4_copyFrom_10 (ca : Nat → ClassId) : k_X4_copyFrom ca 10 = i_push (.int 6) 12 := rfl
theorem k_X4_copyFrom_12 (ca : Nat → ClassId) : k_X4_copyFrom ca 12 = i_acopy (ca 0) 15 := rfl
theorem k_X4_copyFrom_15 (ca : Nat → ClassId) : k_X4_copyFrom ca 15 = i_aload 1 16 := rfl
theorem k_X4_copyFrom_16 (ca : Nat → ClassId) : k_X4_copyFrom ca 16 = i_getf 4 1 19 := rfl
theorem k_X4_copyFrom_19 (ca : Nat → ClassId) : k_X4_copyFrom ca 19 = i_push (.int 0) 20 := rfl
theorem k_X4_copyFrom_20 (ca : Nat → ClassId) : k_X4_copyFrom ca 20 = i_aload 0 21 := rfl
theorem k_X4_copyFrom_21 (ca : Nat → ClassId) : k_X4_copyFrom ca 21 = i_getf 4 1 24 := rfl
theorem k_X4_copyFrom_24 (ca : Nat → ClassId) : k_X4_copyFrom ca 24 = i_push (.int 0) 25 := rfl
theorem k_X4_copyFrom_25 (ca : Nat → ClassId) : k_X4_copyFrom ca 25 = i_push (.int 2) 26 := rfl
theorem k_X4_copyFrom_26 (ca : Nat → ClassId) : k_X4_copyFrom ca 26 = i_acopy (ca 0) 29 := rfl
theorem k_X4_copyFrom_29 (ca : Nat → ClassId) : k_X4_copyFrom ca 29 = i_push (.int 0) 30 := rfl
theorem k_X4_copyFrom_30 (ca : Nat → ClassId) : k_X4_copyFrom ca 30 = i_istore 2 31 := rfl
theorem k_X4_copyFrom_31 (ca : Nat → ClassId) : k_X4_copyFrom ca 31 = i_iload 2 32 := rfl
theorem k_X4_copyFrom_32 (ca : Nat → ClassId) : k_X4_copyFrom ca 32 = i_push (.int 3) 33 := rfl
theorem k_X4_copyFrom_33 (ca : Nat → ClassId) : k_X4_copyFrom ca 33 = i_icmp (fun x y => y ≤ x) 72 36 := rfl
theorem k_X4_copyFrom_36 (ca : Nat → ClassId) : k_X4_copyFrom ca 36 = i_aload 0 37 := rfl
theorem k_X4_copyFrom_37 (ca : Nat → ClassId) : k_X4_copyFrom ca 37 = i_getf 4 2 40 := rfl
theorem k_X4_copyFrom_40 (ca : Nat → ClassId) : k_X4_copyFrom ca 40 = i_iload 2 41 := rfl
theorem k_X4_copyFrom_41 (ca : Nat → ClassId) : k_X4_copyFrom ca 41 = i_aald (ca 6) 42 := rfl
theorem k_X4_copyFrom_42 (ca : Nat → ClassId) : k_X4_copyFrom ca 42 = i_aload 1 43 := rfl
theorem k_X4_copyFrom_43 (ca : Nat → ClassId) : k_X4_copyFrom ca 43 = i_getf 4 2 46 := rfl
theorem k_X4_copyFrom_46 (ca : Nat → ClassId) : k_X4_copyFrom ca 46 = i_iload 2 47 := rfl
theorem k_X4_copyFrom_47 (ca : Nat → ClassId) : k_X4_copyFrom ca 47 = i_aald (ca 6) 48 := rfl
theorem k_X4_copyFrom_48 (ca : Nat → ClassId) : k_X4_copyFrom ca 48 = i_callV 5 1 0 0 0 0 (sp_X5_copyFrom ca) 51 := rfl
theorem k_X4_copyFrom_51 (ca : Nat → ClassId) : k_X4_copyFrom ca 51 = i_aload 0 52 := rfl
theorem k_X4_copyFrom_52 (ca : Nat → ClassId) : k_X4_copyFrom ca 52 = i_getf 4 3 55 := rfl
theorem k_X4_copyFrom_55 (ca : Nat → ClassId) : k_X4_copyFrom ca 55 = i_iload 2 56 := rfl
theorem k_X4_copyFrom_56 (ca : Nat → ClassId) : k_X4_copyFrom ca 56 = i_aald (ca 4) 57 := rfl
theorem k_X4_copyFrom_57 (ca : Nat → ClassId) : k_X4_copyFrom ca 57 = i_aload 1 58 := rfl
theorem k_X4_copyFrom_58 (ca : Nat → ClassId) : k_X4_copyFrom ca 58 = i_getf 4 3 61 := rfl
theorem k_X4_copyFrom_61 (ca : Nat → ClassId) : k_X4_copyFrom ca 61 = i_iload 2 62 := rfl
theorem k_X4_copyFrom_62 (ca : Nat → ClassId) : k_X4_copyFrom ca 62 = i_aald (ca 4) 63 := rfl
theorem k_X4_copyFrom_63 (ca : Nat → ClassId) : k_X4_copyFrom ca 63 = i_callV 2 1 0 0 0 0 (sp_X2_copyFrom ca) 66 := rfl
theorem k_X4_copyFrom_66 (ca : Nat → ClassId) : k_X4_copyFrom ca 66 = i_iinc 2 1 69 := rfl
theorem k_X4_copyFrom_69 (ca : Nat → ClassId) : k_X4_copyFrom ca 69 = i_goto 31 := rfl
theorem k_X4_copyFrom_72 (ca : Nat → ClassId) : k_X4_copyFrom ca 72 = i_aload 0 73 := rfl
theorem k_X4_copyFrom_73 (ca : Nat → ClassId) : k_X4_copyFrom ca 73 = i_aload 1 74 := rfl
theorem k_X4_copyFrom_74 (ca : Nat → ClassId) : k_X4_copyFrom ca 74 = i_getf 4 4 77 := rfl
theorem k_X4_copyFrom_77 (ca : Nat → ClassId) : k_X4_copyFrom ca 77 = i_puti 4 4 80 := rfl
theorem k_X4_copyFrom_80 (ca : Nat → ClassId) : k_X4_copyFrom ca 80 = i_aload 0 81 := rfl
theorem k_X4_copyFrom_81 (ca : Nat → ClassId) : k_X4_copyFrom ca 81 = i_aload 1 82 := rfl
theorem k_X4_copyFrom_82 (ca : Nat → ClassId) : k_X4_copyFrom ca 82 = i_getf 4 5 85 := rfl
theorem k_X4_copyFrom_85 (ca : Nat → ClassId) : k_X4_copyFrom ca 85 = i_puti 4 5 88 := rfl
theorem k_X4_copyFrom_88 (ca : Nat → ClassId) : k_X4_copyFrom ca 88 = i_vret := rfl
set_option maxHeartbeats 4000000 in
set_option maxRecDepth 20000 in
theorem ok_X4_copyFrom (l : Launch) (D : va_G) (ca : Nat → ClassId) : OkAll l D ca yX4_copyFrom cX4_copyFrom 3 none 2 0 0 (sp_X4_copyFrom ca) := by
  intro av h post hs
  obtain ⟨b, c, s, t, rfl, hb, hc, hbc, hS, hT, ⟨t1, t2, t3, t4, t5, t6⟩, hs⟩ := hs
  have hbe : ∀ i j, (b i = b j) = (i = j) := fun i j => propext (hb i j)
  have hce : ∀ i j, (c i = c j) = (i = j) := fun i j => propext (hc i j)
  have hbcE : ∀ i j, i < 22 → j < 22 → (b i = c j) = False := fun i j hi hj => propext (hbc i j hi hj)
  have hcbE : ∀ i j, i < 22 → j < 22 → (c i = b j) = False := fun i j hi hj => propext ⟨fun z => (hbc j i hj hi).mp z.symm, False.elim⟩
  refine okM_of t_X4_copyFrom (by decide +kernel) (c1_ref (c1_ref c1_nil)) (Nat.le_of_ble_eq_true rfl) ?_
  intro K go
  have it : ∀ k, k < 3 → ∀ (h : PH) (s : Nat → Int32), SAt ca h b s → SAt ca h c t → (∀ h', SAt ca h' b (cpR (cpR s t (10 + 32 * k) 32) t (106 + 7 * k) 7) → Same b h h' → K 0 0 31 [some (.ref (b 0)), some (.ref (c 0)), some (.int (nI k + 1))] [] h') → K 0 0 31 [some (.ref (b 0)), some (.ref (c 0)), some (.int (nI k))] [] h := by
    intro k hk h s hS hT hn
    obtain ⟨x0, ⟨xf1, xa1, xx1⟩, ⟨xf2, xa2, xx2⟩, ⟨xf3, xa3, xx3⟩, ⟨xf4, xa4, xx4⟩, ⟨xf5, xa5⟩, ⟨xf6, xa6⟩, ⟨xt7, ⟨xf8, xa8, xx8⟩, ⟨xf9, xa9, xx9⟩, ⟨xf10, xa10, xx10⟩⟩, xr11, ⟨xt12, ⟨xf13, xa13, xx13⟩, ⟨xf14, xa14, xx14⟩, ⟨xf15, xa15, xx15⟩⟩, xr16, ⟨xt17, ⟨xf18, xa18, xx18⟩, ⟨xf19, xa19, xx19⟩, ⟨xf20, xa20, xx20⟩⟩, xr21⟩ := id hS
    have xq30 : xf3 0 = some (b 7) := xx3 0 (by decide)
    have xq40 : xf4 0 = some (b 11) := xx4 0 (by decide)
    have xq31 : xf3 1 = some (b 12) := xx3 1 (by decide)
    have xq41 : xf4 1 = some (b 16) := xx4 1 (by decide)
    have xq32 : xf3 2 = some (b 17) := xx3 2 (by decide)
    have xq42 : xf4 2 = some (b 21) := xx4 2 (by decide)
    obtain ⟨y0, ⟨yf1, ya1, yx1⟩, ⟨yf2, ya2, yx2⟩, ⟨yf3, ya3, yx3⟩, ⟨yf4, ya4, yx4⟩, ⟨yf5, ya5⟩, ⟨yf6, ya6⟩, ⟨yt7, ⟨yf8, ya8, yx8⟩, ⟨yf9, ya9, yx9⟩, ⟨yf10, ya10, yx10⟩⟩, yr11, ⟨yt12, ⟨yf13, ya13, yx13⟩, ⟨yf14, ya14, yx14⟩, ⟨yf15, ya15, yx15⟩⟩, yr16, ⟨yt17, ⟨yf18, ya18, yx18⟩, ⟨yf19, ya19, yx19⟩, ⟨yf20, ya20, yx20⟩⟩, yr21⟩ := id hT
    have yq30 : yf3 0 = some (c 7) := yx3 0 (by decide)
    have yq40 : yf4 0 = some (c 11) := yx4 0 (by decide)
    have yq31 : yf3 1 = some (c 12) := yx3 1 (by decide)
    have yq41 : yf4 1 = some (c 16) := yx4 1 (by decide)
    have yq32 : yf3 2 = some (c 17) := yx3 2 (by decide)
    have yq42 : yf4 2 = some (c 21) := yx4 2 (by decide)
    have hk3 : k = 0 ∨ k = 1 ∨ k = 2 := by omega
    rcases hk3 with rfl | rfl | rfl
    · rw [nI_0] at hn ⊢
      refine go (stp [31]) 30 _ _ _ _ _ _ ?_
      simp only [wpS, ite_not, i_push, i_iload, i_lload, i_aload, i_istore, i_astore, i_lstore, i_iinc, i_bin, i_dv, i_un, i_lbin, i_lsh, i_i2l, i_l2i, i_lcmp, i_dup, i_dup2, i_pop, i_if, i_icmp, i_goto, swG, i_sw, i_getf, i_puti, i_putz, i_putr, i_ald, i_lald, i_aald, i_ast, i_last, i_aast, i_alen, i_new, i_newi, i_newl, i_newq, i_oinit, i_ret, i_zret, i_lret, i_vret, catS, tk, rpush, isO, i_m1, i_m2, i_acopy, i_callV, i_callS, KRet, lget, lput, lputL, lcl0, isL, lv0, List.map_cons, List.map_nil, List.length_cons, List.length_nil, List.cons_append, List.nil_append, Nat.reduceAdd, Nat.reduceSub, Nat.reduceLeDiff, List.replicate_succ, List.replicate_zero, List.getElem?_cons_succ, List.getElem?_cons_zero, List.set_cons_succ, List.set_cons_zero, true_and, and_true, if_true, if_false, reduceIte, Nat.le_refl, Value.category, va_up_app, eq_self, stp, Nat.reduceBEq, Bool.or_false, Bool.false_or, Bool.true_or, Bool.or_true, or_true, true_or, bx_uu, implies_true, true_implies, not_true, not_false_eq_true, false_implies, and_self, Nat.reduceLT, Int32.reduceAdd, Int32.reduceSub, Int32.reduceMul, Int32.reduceLE, Int32.reduceLT, Int32.reduceToNatClampNeg, va_rf_some, Bool.false_eq_true, k_X4_copyFrom_0 ca, k_X4_copyFrom_1 ca, k_X4_copyFrom_4 ca, k_X4_copyFrom_5 ca, k_X4_copyFrom_6 ca, k_X4_copyFrom_9 ca, k_X4_copyFrom_10 ca, k_X4_copyFrom_12 ca, k_X4_copyFrom_15 ca, k_X4_copyFrom_16 ca, k_X4_copyFrom_19 ca, k_X4_copyFrom_20 ca, k_X4_copyFrom_21 ca, k_X4_copyFrom_24 ca, k_X4_copyFrom_25 ca, k_X4_copyFrom_26 ca, k_X4_copyFrom_29 ca, k_X4_copyFrom_30 ca, k_X4_copyFrom_31 ca, k_X4_copyFrom_32 ca, k_X4_copyFrom_33 ca, k_X4_copyFrom_36 ca, k_X4_copyFrom_37 ca, k_X4_copyFrom_40 ca, k_X4_copyFrom_41 ca, k_X4_copyFrom_42 ca, k_X4_copyFrom_43 ca, k_X4_copyFrom_46 ca, k_X4_copyFrom_47 ca, k_X4_copyFrom_48 ca, k_X4_copyFrom_51 ca, k_X4_copyFrom_52 ca, k_X4_copyFrom_55 ca, k_X4_copyFrom_56 ca, k_X4_copyFrom_57 ca, k_X4_copyFrom_58 ca, k_X4_copyFrom_61 ca, k_X4_copyFrom_62 ca, k_X4_copyFrom_63 ca, k_X4_copyFrom_66 ca, k_X4_copyFrom_69 ca, k_X4_copyFrom_72 ca, k_X4_copyFrom_73 ca, k_X4_copyFrom_74 ca, k_X4_copyFrom_77 ca, k_X4_copyFrom_80 ca, k_X4_copyFrom_81 ca, k_X4_copyFrom_82 ca, k_X4_copyFrom_85 ca, k_X4_copyFrom_88 ca, eState, eStrip, eRoom, x0, xa1, xa2, xa3, xa4, xa5, xa6, xa8, xa9, xa10, xa13, xa14, xa15, xa18, xa19, xa20, xt7, xt12, xt17, xr11, xr16, xr21, xq30, xq31, xq32, xq40, xq41, xq42, eState, eStrip, eRoom, y0, ya1, ya2, ya3, ya4, ya5, ya6, ya8, ya9, ya10, ya13, ya14, ya15, ya18, ya19, ya20, yt7, yt12, yt17, yr11, yr16, yr21, yq30, yq31, yq32, yq40, yq41, yq42, v03, v13, v23, sp_X5_copyFrom, sp_X2_copyFrom, hbe, hce, hbcE, hcbE, Nat.reduceEqDiff, List.nodup_cons, List.mem_cons, List.not_mem_nil, List.nodup_nil, not_or, t1, t2, t3, t4, t5, t6]
      have hS1 : SAt ca (va_up (va_up (va_up (va_up h (b 8) (some (.inl (ca 0, 8, .inl (va_cpy yf8 xf8 0 0 8))))) (b 9) (some (.inl (ca 0, 8, .inl (va_cpy yf9 xf9 0 0 8))))) (b 10) (some (.inl (ca 0, 8, .inl (va_cpy yf10 xf10 0 0 8))))) (b 7) (some (eStrip (b 8) (b 9) (b 10) (fun i => t (10 + i))))) b (cpR s t 10 32) :=
        SAt_full0 hS (fun i _ hi => by rw [va_up_ne _ _ (ne22 hb (by omega)), va_up_ne _ _ (ne22 hb (by omega)), va_up_ne _ _ (ne22 hb (by omega)), va_up_ne _ _ (ne22 hb (by omega))]) ⟨va_up_self _ _ _, ⟨_, by rw [va_up_ne _ _ (ne22 hb (by decide)), va_up_ne _ _ (ne22 hb (by decide)), va_up_ne _ _ (ne22 hb (by decide)), va_up_self], cpy8 yx8⟩, ⟨_, by rw [va_up_ne _ _ (ne22 hb (by decide)), va_up_ne _ _ (ne22 hb (by decide)), va_up_self], cpy8 yx9⟩, ⟨_, by rw [va_up_ne _ _ (ne22 hb (by decide)), va_up_self], cpy8 yx10⟩⟩
      have hS2 := SAt_room0 hb hS1 (fun i => t (106 + i))
      rw [ovr_cp] at hS2
      exact hn _ hS2 (Same_tr (Same_tr (Same_tr (Same_tr (Same_up (by decide) _) (Same_up (by decide) _)) (Same_up (by decide) _)) (Same_up (by decide) _)) (Same_up (by decide) _))
    · rw [n1] at hn ⊢
      refine go (stp [31]) 30 _ _ _ _ _ _ ?_
      simp only [wpS, ite_not, i_push, i_iload, i_lload, i_aload, i_istore, i_astore, i_lstore, i_iinc, i_bin, i_dv, i_un, i_lbin, i_lsh, i_i2l, i_l2i, i_lcmp, i_dup, i_dup2, i_pop, i_if, i_icmp, i_goto, swG, i_sw, i_getf, i_puti, i_putz, i_putr, i_ald, i_lald, i_aald, i_ast, i_last, i_aast, i_alen, i_new, i_newi, i_newl, i_newq, i_oinit, i_ret, i_zret, i_lret, i_vret, catS, tk, rpush, isO, i_m1, i_m2, i_acopy, i_callV, i_callS, KRet, lget, lput, lputL, lcl0, isL, lv0, List.map_cons, List.map_nil, List.length_cons, List.length_nil, List.cons_append, List.nil_append, Nat.reduceAdd, Nat.reduceSub, Nat.reduceLeDiff, List.replicate_succ, List.replicate_zero, List.getElem?_cons_succ, List.getElem?_cons_zero, List.set_cons_succ, List.set_cons_zero, true_and, and_true, if_true, if_false, reduceIte, Nat.le_refl, Value.category, va_up_app, eq_self, stp, Nat.reduceBEq, Bool.or_false, Bool.false_or, Bool.true_or, Bool.or_true, or_true, true_or, bx_uu, implies_true, true_implies, not_true, not_false_eq_true, false_implies, and_self, Nat.reduceLT, Int32.reduceAdd, Int32.reduceSub, Int32.reduceMul, Int32.reduceLE, Int32.reduceLT, Int32.reduceToNatClampNeg, va_rf_some, Bool.false_eq_true, k_X4_copyFrom_0 ca, k_X4_copyFrom_1 ca, k_X4_copyFrom_4 ca, k_X4_copyFrom_5 ca, k_X4_copyFrom_6 ca, k_X4_copyFrom_9 ca, k_X4_copyFrom_10 ca, k_X4_copyFrom_12 ca, k_X4_copyFrom_15 ca, k_X4_copyFrom_16 ca, k_X4_copyFrom_19 ca, k_X4_copyFrom_20 ca, k_X4_copyFrom_21 ca, k_X4_copyFrom_24 ca, k_X4_copyFrom_25 ca, k_X4_copyFrom_26 ca, k_X4_copyFrom_29 ca, k_X4_copyFrom_30 ca, k_X4_copyFrom_31 ca, k_X4_copyFrom_32 ca, k_X4_copyFrom_33 ca, k_X4_copyFrom_36 ca, k_X4_copyFrom_37 ca, k_X4_copyFrom_40 ca, k_X4_copyFrom_41 ca, k_X4_copyFrom_42 ca, k_X4_copyFrom_43 ca, k_X4_copyFrom_46 ca, k_X4_copyFrom_47 ca, k_X4_copyFrom_48 ca, k_X4_copyFrom_51 ca, k_X4_copyFrom_52 ca, k_X4_copyFrom_55 ca, k_X4_copyFrom_56 ca, k_X4_copyFrom_57 ca, k_X4_copyFrom_58 ca, k_X4_copyFrom_61 ca, k_X4_copyFrom_62 ca, k_X4_copyFrom_63 ca, k_X4_copyFrom_66 ca, k_X4_copyFrom_69 ca, k_X4_copyFrom_72 ca, k_X4_copyFrom_73 ca, k_X4_copyFrom_74 ca, k_X4_copyFrom_77 ca, k_X4_copyFrom_80 ca, k_X4_copyFrom_81 ca, k_X4_copyFrom_82 ca, k_X4_copyFrom_85 ca, k_X4_copyFrom_88 ca, eState, eStrip, eRoom, x0, xa1, xa2, xa3, xa4, xa5, xa6, xa8, xa9, xa10, xa13, xa14, xa15, xa18, xa19, xa20, xt7, xt12, xt17, xr11, xr16, xr21, xq30, xq31, xq32, xq40, xq41, xq42, eState, eStrip, eRoom, y0, ya1, ya2, ya3, ya4, ya5, ya6, ya8, ya9, ya10, ya13, ya14, ya15, ya18, ya19, ya20, yt7, yt12, yt17, yr11, yr16, yr21, yq30, yq31, yq32, yq40, yq41, yq42, v03, v13, v23, sp_X5_copyFrom, sp_X2_copyFrom, hbe, hce, hbcE, hcbE, Nat.reduceEqDiff, List.nodup_cons, List.mem_cons, List.not_mem_nil, List.nodup_nil, not_or, t1, t2, t3, t4, t5, t6]
      have hS1 : SAt ca (va_up (va_up (va_up (va_up h (b 13) (some (.inl (ca 0, 8, .inl (va_cpy yf13 xf13 0 0 8))))) (b 14) (some (.inl (ca 0, 8, .inl (va_cpy yf14 xf14 0 0 8))))) (b 15) (some (.inl (ca 0, 8, .inl (va_cpy yf15 xf15 0 0 8))))) (b 12) (some (eStrip (b 13) (b 14) (b 15) (fun i => t (42 + i))))) b (cpR s t 42 32) :=
        SAt_full1 hS (fun i _ hi => by rw [va_up_ne _ _ (ne22 hb (by omega)), va_up_ne _ _ (ne22 hb (by omega)), va_up_ne _ _ (ne22 hb (by omega)), va_up_ne _ _ (ne22 hb (by omega))]) ⟨va_up_self _ _ _, ⟨_, by rw [va_up_ne _ _ (ne22 hb (by decide)), va_up_ne _ _ (ne22 hb (by decide)), va_up_ne _ _ (ne22 hb (by decide)), va_up_self], cpy8 yx13⟩, ⟨_, by rw [va_up_ne _ _ (ne22 hb (by decide)), va_up_ne _ _ (ne22 hb (by decide)), va_up_self], cpy8 yx14⟩, ⟨_, by rw [va_up_ne _ _ (ne22 hb (by decide)), va_up_self], cpy8 yx15⟩⟩
      have hS2 := SAt_room1 hb hS1 (fun i => t (113 + i))
      rw [ovr_cp] at hS2
      exact hn _ hS2 (Same_tr (Same_tr (Same_tr (Same_tr (Same_up (by decide) _) (Same_up (by decide) _)) (Same_up (by decide) _)) (Same_up (by decide) _)) (Same_up (by decide) _))
    · rw [n2] at hn ⊢
      refine go (stp [31]) 30 _ _ _ _ _ _ ?_
      simp only [wpS, ite_not, i_push, i_iload, i_lload, i_aload, i_istore, i_astore, i_lstore, i_iinc, i_bin, i_dv, i_un, i_lbin, i_lsh, i_i2l, i_l2i, i_lcmp, i_dup, i_dup2, i_pop, i_if, i_icmp, i_goto, swG, i_sw, i_getf, i_puti, i_putz, i_putr, i_ald, i_lald, i_aald, i_ast, i_last, i_aast, i_alen, i_new, i_newi, i_newl, i_newq, i_oinit, i_ret, i_zret, i_lret, i_vret, catS, tk, rpush, isO, i_m1, i_m2, i_acopy, i_callV, i_callS, KRet, lget, lput, lputL, lcl0, isL, lv0, List.map_cons, List.map_nil, List.length_cons, List.length_nil, List.cons_append, List.nil_append, Nat.reduceAdd, Nat.reduceSub, Nat.reduceLeDiff, List.replicate_succ, List.replicate_zero, List.getElem?_cons_succ, List.getElem?_cons_zero, List.set_cons_succ, List.set_cons_zero, true_and, and_true, if_true, if_false, reduceIte, Nat.le_refl, Value.category, va_up_app, eq_self, stp, Nat.reduceBEq, Bool.or_false, Bool.false_or, Bool.true_or, Bool.or_true, or_true, true_or, bx_uu, implies_true, true_implies, not_true, not_false_eq_true, false_implies, and_self, Nat.reduceLT, Int32.reduceAdd, Int32.reduceSub, Int32.reduceMul, Int32.reduceLE, Int32.reduceLT, Int32.reduceToNatClampNeg, va_rf_some, Bool.false_eq_true, k_X4_copyFrom_0 ca, k_X4_copyFrom_1 ca, k_X4_copyFrom_4 ca, k_X4_copyFrom_5 ca, k_X4_copyFrom_6 ca, k_X4_copyFrom_9 ca, k_X4_copyFrom_10 ca, k_X4_copyFrom_12 ca, k_X4_copyFrom_15 ca, k_X4_copyFrom_16 ca, k_X4_copyFrom_19 ca, k_X4_copyFrom_20 ca, k_X4_copyFrom_21 ca, k_X4_copyFrom_24 ca, k_X4_copyFrom_25 ca, k_X4_copyFrom_26 ca, k_X4_copyFrom_29 ca, k_X4_copyFrom_30 ca, k_X4_copyFrom_31 ca, k_X4_copyFrom_32 ca, k_X4_copyFrom_33 ca, k_X4_copyFrom_36 ca, k_X4_copyFrom_37 ca, k_X4_copyFrom_40 ca, k_X4_copyFrom_41 ca, k_X4_copyFrom_42 ca, k_X4_copyFrom_43 ca, k_X4_copyFrom_46 ca, k_X4_copyFrom_47 ca, k_X4_copyFrom_48 ca, k_X4_copyFrom_51 ca, k_X4_copyFrom_52 ca, k_X4_copyFrom_55 ca, k_X4_copyFrom_56 ca, k_X4_copyFrom_57 ca, k_X4_copyFrom_58 ca, k_X4_copyFrom_61 ca, k_X4_copyFrom_62 ca, k_X4_copyFrom_63 ca, k_X4_copyFrom_66 ca, k_X4_copyFrom_69 ca, k_X4_copyFrom_72 ca, k_X4_copyFrom_73 ca, k_X4_copyFrom_74 ca, k_X4_copyFrom_77 ca, k_X4_copyFrom_80 ca, k_X4_copyFrom_81 ca, k_X4_copyFrom_82 ca, k_X4_copyFrom_85 ca, k_X4_copyFrom_88 ca, eState, eStrip, eRoom, x0, xa1, xa2, xa3, xa4, xa5, xa6, xa8, xa9, xa10, xa13, xa14, xa15, xa18, xa19, xa20, xt7, xt12, xt17, xr11, xr16, xr21, xq30, xq31, xq32, xq40, xq41, xq42, eState, eStrip, eRoom, y0, ya1, ya2, ya3, ya4, ya5, ya6, ya8, ya9, ya10, ya13, ya14, ya15, ya18, ya19, ya20, yt7, yt12, yt17, yr11, yr16, yr21, yq30, yq31, yq32, yq40, yq41, yq42, v03, v13, v23, sp_X5_copyFrom, sp_X2_copyFrom, hbe, hce, hbcE, hcbE, Nat.reduceEqDiff, List.nodup_cons, List.mem_cons, List.not_mem_nil, List.nodup_nil, not_or, t1, t2, t3, t4, t5, t6]
      have hS1 : SAt ca (va_up (va_up (va_up (va_up h (b 18) (some (.inl (ca 0, 8, .inl (va_cpy yf18 xf18 0 0 8))))) (b 19) (some (.inl (ca 0, 8, .inl (va_cpy yf19 xf19 0 0 8))))) (b 20) (some (.inl (ca 0, 8, .inl (va_cpy yf20 xf20 0 0 8))))) (b 17) (some (eStrip (b 18) (b 19) (b 20) (fun i => t (74 + i))))) b (cpR s t 74 32) :=
        SAt_full2 hS (fun i _ hi => by rw [va_up_ne _ _ (ne22 hb (by omega)), va_up_ne _ _ (ne22 hb (by omega)), va_up_ne _ _ (ne22 hb (by omega)), va_up_ne _ _ (ne22 hb (by omega))]) ⟨va_up_self _ _ _, ⟨_, by rw [va_up_ne _ _ (ne22 hb (by decide)), va_up_ne _ _ (ne22 hb (by decide)), va_up_ne _ _ (ne22 hb (by decide)), va_up_self], cpy8 yx18⟩, ⟨_, by rw [va_up_ne _ _ (ne22 hb (by decide)), va_up_ne _ _ (ne22 hb (by decide)), va_up_self], cpy8 yx19⟩, ⟨_, by rw [va_up_ne _ _ (ne22 hb (by decide)), va_up_self], cpy8 yx20⟩⟩
      have hS2 := SAt_room2 hb hS1 (fun i => t (120 + i))
      rw [ovr_cp] at hS2
      exact hn _ hS2 (Same_tr (Same_tr (Same_tr (Same_tr (Same_up (by decide) _) (Same_up (by decide) _)) (Same_up (by decide) _)) (Same_up (by decide) _)) (Same_up (by decide) _))
  obtain ⟨x0, ⟨xf1, xa1, xx1⟩, ⟨xf2, xa2, xx2⟩, ⟨xf3, xa3, xx3⟩, ⟨xf4, xa4, xx4⟩, ⟨xf5, xa5⟩, ⟨xf6, xa6⟩, ⟨xt7, ⟨xf8, xa8, xx8⟩, ⟨xf9, xa9, xx9⟩, ⟨xf10, xa10, xx10⟩⟩, xr11, ⟨xt12, ⟨xf13, xa13, xx13⟩, ⟨xf14, xa14, xx14⟩, ⟨xf15, xa15, xx15⟩⟩, xr16, ⟨xt17, ⟨xf18, xa18, xx18⟩, ⟨xf19, xa19, xx19⟩, ⟨xf20, xa20, xx20⟩⟩, xr21⟩ := id hS
  have xq30 : xf3 0 = some (b 7) := xx3 0 (by decide)
  have xq40 : xf4 0 = some (b 11) := xx4 0 (by decide)
  have xq31 : xf3 1 = some (b 12) := xx3 1 (by decide)
  have xq41 : xf4 1 = some (b 16) := xx4 1 (by decide)
  have xq32 : xf3 2 = some (b 17) := xx3 2 (by decide)
  have xq42 : xf4 2 = some (b 21) := xx4 2 (by decide)
  obtain ⟨y0, ⟨yf1, ya1, yx1⟩, ⟨yf2, ya2, yx2⟩, ⟨yf3, ya3, yx3⟩, ⟨yf4, ya4, yx4⟩, ⟨yf5, ya5⟩, ⟨yf6, ya6⟩, ⟨yt7, ⟨yf8, ya8, yx8⟩, ⟨yf9, ya9, yx9⟩, ⟨yf10, ya10, yx10⟩⟩, yr11, ⟨yt12, ⟨yf13, ya13, yx13⟩, ⟨yf14, ya14, yx14⟩, ⟨yf15, ya15, yx15⟩⟩, yr16, ⟨yt17, ⟨yf18, ya18, yx18⟩, ⟨yf19, ya19, yx19⟩, ⟨yf20, ya20, yx20⟩⟩, yr21⟩ := id hT
  have yq30 : yf3 0 = some (c 7) := yx3 0 (by decide)
  have yq40 : yf4 0 = some (c 11) := yx4 0 (by decide)
  have yq31 : yf3 1 = some (c 12) := yx3 1 (by decide)
  have yq41 : yf4 1 = some (c 16) := yx4 1 (by decide)
  have yq32 : yf3 2 = some (c 17) := yx3 2 (by decide)
  have yq42 : yf4 2 = some (c 21) := yx4 2 (by decide)
  refine go (stp [31]) 22 _ _ _ _ _ _ ?_
  simp only [wpS, ite_not, i_push, i_iload, i_lload, i_aload, i_istore, i_astore, i_lstore, i_iinc, i_bin, i_dv, i_un, i_lbin, i_lsh, i_i2l, i_l2i, i_lcmp, i_dup, i_dup2, i_pop, i_if, i_icmp, i_goto, swG, i_sw, i_getf, i_puti, i_putz, i_putr, i_ald, i_lald, i_aald, i_ast, i_last, i_aast, i_alen, i_new, i_newi, i_newl, i_newq, i_oinit, i_ret, i_zret, i_lret, i_vret, catS, tk, rpush, isO, i_m1, i_m2, i_acopy, i_callV, i_callS, KRet, lget, lput, lputL, lcl0, isL, lv0, List.map_cons, List.map_nil, List.length_cons, List.length_nil, List.cons_append, List.nil_append, Nat.reduceAdd, Nat.reduceSub, Nat.reduceLeDiff, List.replicate_succ, List.replicate_zero, List.getElem?_cons_succ, List.getElem?_cons_zero, List.set_cons_succ, List.set_cons_zero, true_and, and_true, if_true, if_false, reduceIte, Nat.le_refl, Value.category, va_up_app, eq_self, stp, Nat.reduceBEq, Bool.or_false, Bool.false_or, Bool.true_or, Bool.or_true, or_true, true_or, bx_uu, implies_true, true_implies, not_true, not_false_eq_true, false_implies, and_self, Nat.reduceLT, Int32.reduceAdd, Int32.reduceSub, Int32.reduceMul, Int32.reduceLE, Int32.reduceLT, Int32.reduceToNatClampNeg, va_rf_some, Bool.false_eq_true, k_X4_copyFrom_0 ca, k_X4_copyFrom_1 ca, k_X4_copyFrom_4 ca, k_X4_copyFrom_5 ca, k_X4_copyFrom_6 ca, k_X4_copyFrom_9 ca, k_X4_copyFrom_10 ca, k_X4_copyFrom_12 ca, k_X4_copyFrom_15 ca, k_X4_copyFrom_16 ca, k_X4_copyFrom_19 ca, k_X4_copyFrom_20 ca, k_X4_copyFrom_21 ca, k_X4_copyFrom_24 ca, k_X4_copyFrom_25 ca, k_X4_copyFrom_26 ca, k_X4_copyFrom_29 ca, k_X4_copyFrom_30 ca, k_X4_copyFrom_31 ca, k_X4_copyFrom_32 ca, k_X4_copyFrom_33 ca, k_X4_copyFrom_36 ca, k_X4_copyFrom_37 ca, k_X4_copyFrom_40 ca, k_X4_copyFrom_41 ca, k_X4_copyFrom_42 ca, k_X4_copyFrom_43 ca, k_X4_copyFrom_46 ca, k_X4_copyFrom_47 ca, k_X4_copyFrom_48 ca, k_X4_copyFrom_51 ca, k_X4_copyFrom_52 ca, k_X4_copyFrom_55 ca, k_X4_copyFrom_56 ca, k_X4_copyFrom_57 ca, k_X4_copyFrom_58 ca, k_X4_copyFrom_61 ca, k_X4_copyFrom_62 ca, k_X4_copyFrom_63 ca, k_X4_copyFrom_66 ca, k_X4_copyFrom_69 ca, k_X4_copyFrom_72 ca, k_X4_copyFrom_73 ca, k_X4_copyFrom_74 ca, k_X4_copyFrom_77 ca, k_X4_copyFrom_80 ca, k_X4_copyFrom_81 ca, k_X4_copyFrom_82 ca, k_X4_copyFrom_85 ca, k_X4_copyFrom_88 ca, eState, eStrip, eRoom, x0, xa1, xa2, xa3, xa4, xa5, xa6, xa8, xa9, xa10, xa13, xa14, xa15, xa18, xa19, xa20, xt7, xt12, xt17, xr11, xr16, xr21, xq30, xq31, xq32, xq40, xq41, xq42, eState, eStrip, eRoom, y0, ya1, ya2, ya3, ya4, ya5, ya6, ya8, ya9, ya10, ya13, ya14, ya15, ya18, ya19, ya20, yt7, yt12, yt17, yr11, yr16, yr21, yq30, yq31, yq32, yq40, yq41, yq42, hbe, hce, hbcE, hcbE, Nat.reduceEqDiff, tn0, tn6, tn2, Int32.lt_irrefl]
  have q1 := SAt_set2 hb (SAt_num2 hb hS (cpyN (g := xf1) yx1)) (cpyN (g := xf2) yx2)
  have m1 : Same b h _ := Same_tr (Same_up (b := b) (h := h) (i := 1) (by decide) (some (.inl (ca 0, 6, .inl (va_cpy yf1 xf1 0 0 6))))) (Same_up (i := 2) (by decide) (some (.inl (ca 0, 2, .inl (va_cpy yf2 xf2 0 0 2)))))
  refine it 0 (by omega) _ _ q1 (SAt_kept hT (Same_kept hbc m1)) (fun h1 p1 p2 => ?_)
  refine it 1 (by omega) _ _ p1 (SAt_kept hT (Same_kept hbc (Same_tr m1 p2))) (fun h2 p3 p4 => ?_)
  refine it 2 (by omega) _ _ p3 (SAt_kept hT (Same_kept hbc (Same_tr (Same_tr m1 p2) p4))) (fun h3 p5 p6 => ?_)
  have e3 : nI 2 + 1 = 3 := rfl
  rw [e3]
  clear it
  have hT3 := SAt_kept hT (Same_kept hbc (Same_tr (Same_tr (Same_tr m1 p2) p4) p6))
  have hS4 := SAt_obj hb p5 (fun i => t (8 + i))
  rw [ovr_cp] at hS4
  have ec : ∀ j, j < 127 → cpR (cpR (cpR (cpR (cpR (cpR (cpR (cpR (cpR s t 0 6) t 6 2) t (10 + 32 * 0) 32) t (106 + 7 * 0) 7) t (10 + 32 * 1) 32) t (106 + 7 * 1) 7) t (10 + 32 * 2) 32) t (106 + 7 * 2) 7) t 8 2 j = t j := by
    intro j hj
    unfold cpR
    by_cases z1 : 8 ≤ j ∧ j < 8 + 2
    · rw [if_pos z1]
    · rw [if_neg z1]
      by_cases z2 : 106 + 7 * 2 ≤ j ∧ j < 106 + 7 * 2 + 7
      · rw [if_pos z2]
      · rw [if_neg z2]
        by_cases z3 : 10 + 32 * 2 ≤ j ∧ j < 10 + 32 * 2 + 32
        · rw [if_pos z3]
        · rw [if_neg z3]
          by_cases z4 : 106 + 7 * 1 ≤ j ∧ j < 106 + 7 * 1 + 7
          · rw [if_pos z4]
          · rw [if_neg z4]
            by_cases z5 : 10 + 32 * 1 ≤ j ∧ j < 10 + 32 * 1 + 32
            · rw [if_pos z5]
            · rw [if_neg z5]
              by_cases z6 : 106 + 7 * 0 ≤ j ∧ j < 106 + 7 * 0 + 7
              · rw [if_pos z6]
              · rw [if_neg z6]
                by_cases z7 : 10 + 32 * 0 ≤ j ∧ j < 10 + 32 * 0 + 32
                · rw [if_pos z7]
                · rw [if_neg z7]
                  by_cases z8 : 6 ≤ j ∧ j < 6 + 2
                  · rw [if_pos z8]
                  · rw [if_neg z8, if_pos (by omega)]
  have hS5 := SAt_cong hS4 ec
  obtain ⟨z0, ⟨zf1, za1, zx1⟩, ⟨zf2, za2, zx2⟩, ⟨zf3, za3, zx3⟩, ⟨zf4, za4, zx4⟩, ⟨zf5, za5⟩, ⟨zf6, za6⟩, ⟨zt7, ⟨zf8, za8, zx8⟩, ⟨zf9, za9, zx9⟩, ⟨zf10, za10, zx10⟩⟩, zr11, ⟨zt12, ⟨zf13, za13, zx13⟩, ⟨zf14, za14, zx14⟩, ⟨zf15, za15, zx15⟩⟩, zr16, ⟨zt17, ⟨zf18, za18, zx18⟩, ⟨zf19, za19, zx19⟩, ⟨zf20, za20, zx20⟩⟩, zr21⟩ := id p5
  have zq30 : zf3 0 = some (b 7) := zx3 0 (by decide)
  have zq40 : zf4 0 = some (b 11) := zx4 0 (by decide)
  have zq31 : zf3 1 = some (b 12) := zx3 1 (by decide)
  have zq41 : zf4 1 = some (b 16) := zx4 1 (by decide)
  have zq32 : zf3 2 = some (b 17) := zx3 2 (by decide)
  have zq42 : zf4 2 = some (b 21) := zx4 2 (by decide)
  obtain ⟨w0, ⟨wf1, wa1, wx1⟩, ⟨wf2, wa2, wx2⟩, ⟨wf3, wa3, wx3⟩, ⟨wf4, wa4, wx4⟩, ⟨wf5, wa5⟩, ⟨wf6, wa6⟩, ⟨wt7, ⟨wf8, wa8, wx8⟩, ⟨wf9, wa9, wx9⟩, ⟨wf10, wa10, wx10⟩⟩, wr11, ⟨wt12, ⟨wf13, wa13, wx13⟩, ⟨wf14, wa14, wx14⟩, ⟨wf15, wa15, wx15⟩⟩, wr16, ⟨wt17, ⟨wf18, wa18, wx18⟩, ⟨wf19, wa19, wx19⟩, ⟨wf20, wa20, wx20⟩⟩, wr21⟩ := id hT3
  have wq30 : wf3 0 = some (c 7) := wx3 0 (by decide)
  have wq40 : wf4 0 = some (c 11) := wx4 0 (by decide)
  have wq31 : wf3 1 = some (c 12) := wx3 1 (by decide)
  have wq41 : wf4 1 = some (c 16) := wx4 1 (by decide)
  have wq32 : wf3 2 = some (c 17) := wx3 2 (by decide)
  have wq42 : wf4 2 = some (c 21) := wx4 2 (by decide)
  refine go (stp []) 16 _ _ _ _ _ _ ?_
  simp only [wpS, ite_not, i_push, i_iload, i_lload, i_aload, i_istore, i_astore, i_lstore, i_iinc, i_bin, i_dv, i_un, i_lbin, i_lsh, i_i2l, i_l2i, i_lcmp, i_dup, i_dup2, i_pop, i_if, i_icmp, i_goto, swG, i_sw, i_getf, i_puti, i_putz, i_putr, i_ald, i_lald, i_aald, i_ast, i_last, i_aast, i_alen, i_new, i_newi, i_newl, i_newq, i_oinit, i_ret, i_zret, i_lret, i_vret, catS, tk, rpush, isO, i_m1, i_m2, i_acopy, i_callV, i_callS, KRet, lget, lput, lputL, lcl0, isL, lv0, List.map_cons, List.map_nil, List.length_cons, List.length_nil, List.cons_append, List.nil_append, Nat.reduceAdd, Nat.reduceSub, Nat.reduceLeDiff, List.replicate_succ, List.replicate_zero, List.getElem?_cons_succ, List.getElem?_cons_zero, List.set_cons_succ, List.set_cons_zero, true_and, and_true, if_true, if_false, reduceIte, Nat.le_refl, Value.category, va_up_app, eq_self, stp, Nat.reduceBEq, Bool.or_false, Bool.false_or, Bool.true_or, Bool.or_true, or_true, true_or, bx_uu, implies_true, true_implies, not_true, not_false_eq_true, false_implies, and_self, Nat.reduceLT, Int32.reduceAdd, Int32.reduceSub, Int32.reduceMul, Int32.reduceLE, Int32.reduceLT, Int32.reduceToNatClampNeg, va_rf_some, Bool.false_eq_true, k_X4_copyFrom_0 ca, k_X4_copyFrom_1 ca, k_X4_copyFrom_4 ca, k_X4_copyFrom_5 ca, k_X4_copyFrom_6 ca, k_X4_copyFrom_9 ca, k_X4_copyFrom_10 ca, k_X4_copyFrom_12 ca, k_X4_copyFrom_15 ca, k_X4_copyFrom_16 ca, k_X4_copyFrom_19 ca, k_X4_copyFrom_20 ca, k_X4_copyFrom_21 ca, k_X4_copyFrom_24 ca, k_X4_copyFrom_25 ca, k_X4_copyFrom_26 ca, k_X4_copyFrom_29 ca, k_X4_copyFrom_30 ca, k_X4_copyFrom_31 ca, k_X4_copyFrom_32 ca, k_X4_copyFrom_33 ca, k_X4_copyFrom_36 ca, k_X4_copyFrom_37 ca, k_X4_copyFrom_40 ca, k_X4_copyFrom_41 ca, k_X4_copyFrom_42 ca, k_X4_copyFrom_43 ca, k_X4_copyFrom_46 ca, k_X4_copyFrom_47 ca, k_X4_copyFrom_48 ca, k_X4_copyFrom_51 ca, k_X4_copyFrom_52 ca, k_X4_copyFrom_55 ca, k_X4_copyFrom_56 ca, k_X4_copyFrom_57 ca, k_X4_copyFrom_58 ca, k_X4_copyFrom_61 ca, k_X4_copyFrom_62 ca, k_X4_copyFrom_63 ca, k_X4_copyFrom_66 ca, k_X4_copyFrom_69 ca, k_X4_copyFrom_72 ca, k_X4_copyFrom_73 ca, k_X4_copyFrom_74 ca, k_X4_copyFrom_77 ca, k_X4_copyFrom_80 ca, k_X4_copyFrom_81 ca, k_X4_copyFrom_82 ca, k_X4_copyFrom_85 ca, k_X4_copyFrom_88 ca, eState, eStrip, eRoom, z0, za1, za2, za3, za4, za5, za6, za8, za9, za10, za13, za14, za15, za18, za19, za20, zt7, zt12, zt17, zr11, zr16, zr21, zq30, zq31, zq32, zq40, zq41, zq42, eState, eStrip, eRoom, w0, wa1, wa2, wa3, wa4, wa5, wa6, wa8, wa9, wa10, wa13, wa14, wa15, wa18, wa19, wa20, wt7, wt12, wt17, wr11, wr16, wr21, wq30, wq31, wq32, wq40, wq41, wq42, hbe, hce, hbcE, hcbE, Nat.reduceEqDiff]
  exact hs _ hS5 (Same_tr (Same_tr (Same_tr (Same_tr m1 p2) p4) p6) (Same_up (by decide) _))

