/-! the class's reads over one picture: specs that evaluate; digest -/
def sq_stripOf (g : Nat → Nat) (B : Nat) (s : Nat → Int32) (ss : Nat) (T : Nat → Int32) (n : Nat) (f : Nat → Int32) (ca : Nat → ClassId) : SPEC := fun av h post => match av with
  | [.ref o, .int x, .int w] => o = g 0 ∧ LC ca h g B s ss T n f ∧ post (some (.int (aStripOf s x w))) h
  | _ => False
theorem oq_stripOf (g : Nat → Nat) (B : Nat) (s : Nat → Int32) (ss : Nat) (T : Nat → Int32) (n : Nat) (f : Nat → Int32) (l : Launch) (D : va_G) (ca : Nat → ClassId) : OkAll l D ca yX7_stripOf cX7_stripOf 4 (some .int) 3 0 0 (sq_stripOf g B s ss T n f ca) := by
  intro av h post hs
  refine ok_X7_stripOf l D ca av h post ?_
  unfold sq_stripOf at hs
  split at hs
  · obtain ⟨rfl, H, hs⟩ := hs
    exact H.str _ _ hs
  · exact hs.elim
def sq_partOf (g : Nat → Nat) (B : Nat) (s : Nat → Int32) (ss : Nat) (T : Nat → Int32) (n : Nat) (f : Nat → Int32) (ca : Nat → ClassId) : SPEC := fun av h post => match av with
  | [.ref o, .int x, .int i, .int w] => o = g 0 ∧ LC ca h g B s ss T n f ∧ post (some (.int (aPartOf s x i w))) h
  | _ => False
theorem oq_partOf (g : Nat → Nat) (B : Nat) (s : Nat → Int32) (ss : Nat) (T : Nat → Int32) (n : Nat) (f : Nat → Int32) (l : Launch) (D : va_G) (ca : Nat → ClassId) : OkAll l D ca yX7_partOf cX7_partOf 5 (some .int) 2 0 0 (sq_partOf g B s ss T n f ca) := by
  intro av h post hs
  refine ok_X7_partOf l D ca av h post ?_
  unfold sq_partOf at hs
  split at hs
  · obtain ⟨rfl, H, hs⟩ := hs
    exact H.prt _ _ _ hs
  · exact hs.elim
def sq_roomOf (g : Nat → Nat) (B : Nat) (s : Nat → Int32) (ss : Nat) (T : Nat → Int32) (n : Nat) (f : Nat → Int32) (ca : Nat → ClassId) : SPEC := fun av h post => match av with
  | [.ref o, .int x, .int w] => o = g 0 ∧ LC ca h g B s ss T n f ∧ post (some (.int (aRoomOf s x w))) h
  | _ => False
theorem oq_roomOf (g : Nat → Nat) (B : Nat) (s : Nat → Int32) (ss : Nat) (T : Nat → Int32) (n : Nat) (f : Nat → Int32) (l : Launch) (D : va_G) (ca : Nat → ClassId) : OkAll l D ca yX7_roomOf cX7_roomOf 4 (some .int) 2 0 0 (sq_roomOf g B s ss T n f ca) := by
  intro av h post hs
  refine ok_X7_roomOf l D ca av h post ?_
  unfold sq_roomOf at hs
  split at hs
  · obtain ⟨rfl, H, hs⟩ := hs
    exact H.rom _ _ hs
  · exact hs.elim
def sq_count (g : Nat → Nat) (B : Nat) (s : Nat → Int32) (ss : Nat) (T : Nat → Int32) (n : Nat) (f : Nat → Int32) (ca : Nat → ClassId) : SPEC := fun av h post => match av with
  | [.ref o, .int w] => o = g 0 ∧ LC ca h g B s ss T n f ∧ post (some (.int (aCount s ss n w))) h
  | _ => False
theorem oq_count (g : Nat → Nat) (B : Nat) (s : Nat → Int32) (ss : Nat) (T : Nat → Int32) (n : Nat) (f : Nat → Int32) (l : Launch) (D : va_G) (ca : Nat → ClassId) : OkAll l D ca yX7_count cX7_count 2 (some .int) 2 0 0 (sq_count g B s ss T n f ca) := by
  intro av h post hs
  refine ok_X7_count l D ca av h post ?_
  unfold sq_count at hs
  split at hs
  · obtain ⟨rfl, H, hs⟩ := hs
    exact H.cnt _ hs
  · exact hs.elim
def sq_bend (g : Nat → Nat) (B : Nat) (s : Nat → Int32) (ss : Nat) (T : Nat → Int32) (n : Nat) (f : Nat → Int32) (ca : Nat → ClassId) : SPEC := fun av h post => match av with
  | [.ref o, .int x, .int w] => o = g 0 ∧ LC ca h g B s ss T n f ∧ post (some (.int (aBend s x w))) h
  | _ => False
theorem oq_bend (g : Nat → Nat) (B : Nat) (s : Nat → Int32) (ss : Nat) (T : Nat → Int32) (n : Nat) (f : Nat → Int32) (l : Launch) (D : va_G) (ca : Nat → ClassId) : OkAll l D ca yX7_bend cX7_bend 3 (some .int) 2 0 0 (sq_bend g B s ss T n f ca) := by
  intro av h post hs
  refine ok_X7_bend l D ca av h post ?_
  unfold sq_bend at hs
  split at hs
  · obtain ⟨rfl, H, hs⟩ := hs
    exact H.bnd _ _ hs
  · exact hs.elim
def sq_tripsAt (g : Nat → Nat) (B : Nat) (s : Nat → Int32) (ss : Nat) (T : Nat → Int32) (n : Nat) (f : Nat → Int32) (ca : Nat → ClassId) : SPEC := fun av h post => match av with
  | [.ref o, .int x, .int w] => o = g 0 ∧ LC ca h g B s ss T n f ∧ post (some (.int (aTripC s x w))) h
  | _ => False
theorem oq_tripsAt (g : Nat → Nat) (B : Nat) (s : Nat → Int32) (ss : Nat) (T : Nat → Int32) (n : Nat) (f : Nat → Int32) (l : Launch) (D : va_G) (ca : Nat → ClassId) : OkAll l D ca yX7_tripsAt cX7_tripsAt 5 (some .int) 2 0 0 (sq_tripsAt g B s ss T n f ca) := by
  intro av h post hs
  refine ok_X7_tripsAt l D ca av h post ?_
  unfold sq_tripsAt at hs
  split at hs
  · obtain ⟨rfl, H, hs⟩ := hs
    exact H.trp _ _ hs
  · exact hs.elim
def sq_fault (g : Nat → Nat) (B : Nat) (s : Nat → Int32) (ss : Nat) (T : Nat → Int32) (n : Nat) (f : Nat → Int32) (ca : Nat → ClassId) : SPEC := fun av h post => match av with
  | [.ref o, .int x] => o = g 0 ∧ LC ca h g B s ss T n f ∧ post (some (.int (aFaultC f n x))) h
  | _ => False
theorem oq_fault (g : Nat → Nat) (B : Nat) (s : Nat → Int32) (ss : Nat) (T : Nat → Int32) (n : Nat) (f : Nat → Int32) (l : Launch) (D : va_G) (ca : Nat → ClassId) : OkAll l D ca yX7_fault cX7_fault 3 (some .int) 3 0 0 (sq_fault g B s ss T n f ca) := by
  intro av h post hs
  refine ok_X7_fault l D ca av h post ?_
  unfold sq_fault at hs
  split at hs
  · obtain ⟨rfl, H, hs⟩ := hs
    exact H.flt _ hs
  · exact hs.elim
def dgL (a : Nat → Int32) (d : Int64) : Nat → Int64
  | 0 => d
  | k + 1 => 31 * dgL a d k + (a k).toInt64
def dg1 (s : Nat → Int32) : Nat → Int32 := fun k => if k = 3 then 0 else if k = 4 then 0 else aCount s 0 0 (nI k)
def dg2 (s : Nat → Int32) : Nat → Int32 := fun k => aStripOf s (nI k / 12) (nI k - nI k / 12 * 12)
def dg3 (s : Nat → Int32) : Nat → Int32 := fun k => aRoomOf s (nI k / 7) (nI k - nI k / 7 * 7)
def dg4 (s : Nat → Int32) : Nat → Int32 := fun k => aPartOf s (nI k / 24) (nI k / 3 - nI k / 3 / 8 * 8) (nI k - nI k / 3 * 3)
def dgS (s : Nat → Int32) : Int64 := dgL (dg4 s) (dgL (dg3 s) (dgL (dg2 s) (dgL (dg1 s) 53 16) 36) 21) 72
def sp_L_digest (ca : Nat → ClassId) : SPEC := fun av h post => ∃ g B s ss T n f, av = [.ref (g 0)] ∧ LC ca h g B s ss T n f ∧ post (some (.long (dgS s))) h
def k_L_digest (g : Nat → Nat) (B : Nat) (s : Nat → Int32) (ss : Nat) (T : Nat → Int32) (n : Nat) (f : Nat → Int32) (ca : Nat → ClassId) : Nat → IT := fun pc => if pc < 66 then lk pc [(0, i_push (.long 53) 3),
  (3, i_lstore 1 4),
  (4, i_push (.int 0) 5),
  (5, i_istore 3 6),
  (6, i_iload 3 7),
  (7, i_push (.int 16) 9),
  (9, i_icmp (fun x y => y ≤ x) 45 12),
  (12, i_push (.long 31) 15),
  (15, i_lload 1 16),
  (16, i_lbin (fun x y => x * y) 17),
  (17, i_iload 3 18),
  (18, i_push (.int 3) 19),
  (19, i_icmp (fun x y => x = y) 27 22),
  (22, i_iload 3 23),
  (23, i_push (.int 4) 24),
  (24, i_icmp (fun x y => ¬ x = y) 31 27),
  (27, i_push (.int 0) 28),
  (28, i_goto 36),
  (31, i_aload 0 32),
  (32, i_iload 3 33),
  (33, i_callV 7 1 0 0 0 0 (sq_count g B s ss T n f ca) 36),
  (36, i_i2l 37),
  (37, i_lbin (fun x y => x + y) 38),
  (38, i_lstore 1 39),
  (39, i_iinc 3 1 42),
  (42, i_goto 6),
  (45, i_push (.int 0) 46),
  (46, i_istore 3 47),
  (47, i_iload 3 48),
  (48, i_push (.int 36) 50),
  (50, i_icmp (fun x y => y ≤ x) 79 53),
  (53, i_push (.long 31) 56),
  (56, i_lload 1 57),
  (57, i_lbin (fun x y => x * y) 58),
  (58, i_aload 0 59),
  (59, i_iload 3 60),
  (60, i_push (.int 12) 62),
  (62, i_dv (fun x y => x / y) 63),
  (63, i_iload 3 64),
  (64, i_push (.int 12) 66)] else
  if pc < 131 then lk pc [(66, i_dv (fun x y => x - x / y * y) 67),
  (67, i_callV 7 2 0 0 0 0 (sq_stripOf g B s ss T n f ca) 70),
  (70, i_i2l 71),
  (71, i_lbin (fun x y => x + y) 72),
  (72, i_lstore 1 73),
  (73, i_iinc 3 1 76),
  (76, i_goto 47),
  (79, i_push (.int 0) 80),
  (80, i_istore 3 81),
  (81, i_iload 3 82),
  (82, i_push (.int 21) 84),
  (84, i_icmp (fun x y => y ≤ x) 113 87),
  (87, i_push (.long 31) 90),
  (90, i_lload 1 91),
  (91, i_lbin (fun x y => x * y) 92),
  (92, i_aload 0 93),
  (93, i_iload 3 94),
  (94, i_push (.int 7) 96),
  (96, i_dv (fun x y => x / y) 97),
  (97, i_iload 3 98),
  (98, i_push (.int 7) 100),
  (100, i_dv (fun x y => x - x / y * y) 101),
  (101, i_callV 7 2 0 0 0 0 (sq_roomOf g B s ss T n f ca) 104),
  (104, i_i2l 105),
  (105, i_lbin (fun x y => x + y) 106),
  (106, i_lstore 1 107),
  (107, i_iinc 3 1 110),
  (110, i_goto 81),
  (113, i_push (.int 0) 114),
  (114, i_istore 3 115),
  (115, i_iload 3 116),
  (116, i_push (.int 72) 118),
  (118, i_icmp (fun x y => y ≤ x) 152 121),
  (121, i_push (.long 31) 124),
  (124, i_lload 1 125),
  (125, i_lbin (fun x y => x * y) 126),
  (126, i_aload 0 127),
  (127, i_iload 3 128),
  (128, i_push (.int 24) 130),
  (130, i_dv (fun x y => x / y) 131)] else
  lk pc [(131, i_iload 3 132),
  (132, i_push (.int 3) 133),
  (133, i_dv (fun x y => x / y) 134),
  (134, i_push (.int 8) 136),
  (136, i_dv (fun x y => x - x / y * y) 137),
  (137, i_iload 3 138),
  (138, i_push (.int 3) 139),
  (139, i_dv (fun x y => x - x / y * y) 140),
  (140, i_callV 7 3 0 0 0 0 (sq_partOf g B s ss T n f ca) 143),
  (143, i_i2l 144),
  (144, i_lbin (fun x y => x + y) 145),
  (145, i_lstore 1 146),
  (146, i_iinc 3 1 149),
  (149, i_goto 115),
  (152, i_lload 1 153),
  (153, i_lret)]
set_option maxRecDepth 20000 in
theorem t_L_digest (g : Nat → Nat) (B : Nat) (s : Nat → Int32) (ss : Nat) (T : Nat → Int32) (n : Nat) (f : Nat → Int32) : Tb (k_L_digest g B s ss T n f) yL_digest cL_digest 4 (some .long) 4 0 0 := by
  intro l D ca A p e s0 m args below meth c post X
  unfold k_L_digest
  refine snd_split (66) ?_ ?_
  · refine snd_cons (snd_ldc2 X w_321 dL_digest_0) ?_
    refine snd_cons (snd_lstore_n X dL_digest_3 rfl (by decide)) ?_
    refine snd_cons (snd_iconst X dL_digest_4 (by decide)) ?_
    refine snd_cons (snd_istore_n X dL_digest_5 rfl (by decide)) ?_
    refine snd_cons (snd_iload_n X dL_digest_6 rfl) ?_
    refine snd_cons (snd_bipush X dL_digest_7 (by decide)) ?_
    refine snd_cons (snd_icmp_ge X dL_digest_9 (by decide)) ?_
    refine snd_cons (snd_ldc2 X w_322 dL_digest_12) ?_
    refine snd_cons (snd_lload_n X dL_digest_15 rfl) ?_
    refine snd_cons (snd_lmul X dL_digest_16) ?_
    refine snd_cons (snd_iload_n X dL_digest_17 rfl) ?_
    refine snd_cons (snd_iconst X dL_digest_18 (by decide)) ?_
    refine snd_cons (snd_icmp_eq X dL_digest_19 (by decide)) ?_
    refine snd_cons (snd_iload_n X dL_digest_22 rfl) ?_
    refine snd_cons (snd_iconst X dL_digest_23 (by decide)) ?_
    refine snd_cons (snd_icmp_ne X dL_digest_24 (by decide)) ?_
    refine snd_cons (snd_iconst X dL_digest_27 (by decide)) ?_
    refine snd_cons (snd_goto X dL_digest_28 (by decide)) ?_
    refine snd_cons (snd_aload_n X dL_digest_31 rfl) ?_
    refine snd_cons (snd_iload_n X dL_digest_32 rfl) ?_
    refine snd_cons (snd_callV X Fk7 (oq_count g B s ss T n f l D ca) rfl rfl w_269 w_270 w_271 w_1 w_272 (by decide) (by decide) dL_digest_33) ?_
    refine snd_cons (snd_i2l X dL_digest_36) ?_
    refine snd_cons (snd_ladd X dL_digest_37) ?_
    refine snd_cons (snd_lstore_n X dL_digest_38 rfl (by decide)) ?_
    refine snd_cons (snd_iinc X dL_digest_39 (by decide) (by decide)) ?_
    refine snd_cons (snd_goto X dL_digest_42 (by decide)) ?_
    refine snd_cons (snd_iconst X dL_digest_45 (by decide)) ?_
    refine snd_cons (snd_istore_n X dL_digest_46 rfl (by decide)) ?_
    refine snd_cons (snd_iload_n X dL_digest_47 rfl) ?_
    refine snd_cons (snd_bipush X dL_digest_48 (by decide)) ?_
    refine snd_cons (snd_icmp_ge X dL_digest_50 (by decide)) ?_
    refine snd_cons (snd_ldc2 X w_322 dL_digest_53) ?_
    refine snd_cons (snd_lload_n X dL_digest_56 rfl) ?_
    refine snd_cons (snd_lmul X dL_digest_57) ?_
    refine snd_cons (snd_aload_n X dL_digest_58 rfl) ?_
    refine snd_cons (snd_iload_n X dL_digest_59 rfl) ?_
    refine snd_cons (snd_bipush X dL_digest_60 (by decide)) ?_
    refine snd_cons (snd_idiv X dL_digest_62) ?_
    refine snd_cons (snd_iload_n X dL_digest_63 rfl) ?_
    refine snd_cons (snd_bipush X dL_digest_64 (by decide)) ?_
    exact snd_nil
  refine snd_split (131) ?_ ?_
  · refine snd_cons (snd_irem X dL_digest_66) ?_
    refine snd_cons (snd_callV X Fk7 (oq_stripOf g B s ss T n f l D ca) rfl rfl w_323 w_324 w_325 w_1 w_326 (by decide) (by decide) dL_digest_67) ?_
    refine snd_cons (snd_i2l X dL_digest_70) ?_
    refine snd_cons (snd_ladd X dL_digest_71) ?_
    refine snd_cons (snd_lstore_n X dL_digest_72 rfl (by decide)) ?_
    refine snd_cons (snd_iinc X dL_digest_73 (by decide) (by decide)) ?_
    refine snd_cons (snd_goto X dL_digest_76 (by decide)) ?_
    refine snd_cons (snd_iconst X dL_digest_79 (by decide)) ?_
    refine snd_cons (snd_istore_n X dL_digest_80 rfl (by decide)) ?_
    refine snd_cons (snd_iload_n X dL_digest_81 rfl) ?_
    refine snd_cons (snd_bipush X dL_digest_82 (by decide)) ?_
    refine snd_cons (snd_icmp_ge X dL_digest_84 (by decide)) ?_
    refine snd_cons (snd_ldc2 X w_322 dL_digest_87) ?_
    refine snd_cons (snd_lload_n X dL_digest_90 rfl) ?_
    refine snd_cons (snd_lmul X dL_digest_91) ?_
    refine snd_cons (snd_aload_n X dL_digest_92 rfl) ?_
    refine snd_cons (snd_iload_n X dL_digest_93 rfl) ?_
    refine snd_cons (snd_bipush X dL_digest_94 (by decide)) ?_
    refine snd_cons (snd_idiv X dL_digest_96) ?_
    refine snd_cons (snd_iload_n X dL_digest_97 rfl) ?_
    refine snd_cons (snd_bipush X dL_digest_98 (by decide)) ?_
    refine snd_cons (snd_irem X dL_digest_100) ?_
    refine snd_cons (snd_callV X Fk7 (oq_roomOf g B s ss T n f l D ca) rfl rfl w_357 w_358 w_359 w_1 w_360 (by decide) (by decide) dL_digest_101) ?_
    refine snd_cons (snd_i2l X dL_digest_104) ?_
    refine snd_cons (snd_ladd X dL_digest_105) ?_
    refine snd_cons (snd_lstore_n X dL_digest_106 rfl (by decide)) ?_
    refine snd_cons (snd_iinc X dL_digest_107 (by decide) (by decide)) ?_
    refine snd_cons (snd_goto X dL_digest_110 (by decide)) ?_
    refine snd_cons (snd_iconst X dL_digest_113 (by decide)) ?_
    refine snd_cons (snd_istore_n X dL_digest_114 rfl (by decide)) ?_
    refine snd_cons (snd_iload_n X dL_digest_115 rfl) ?_
    refine snd_cons (snd_bipush X dL_digest_116 (by decide)) ?_
    refine snd_cons (snd_icmp_ge X dL_digest_118 (by decide)) ?_
    refine snd_cons (snd_ldc2 X w_322 dL_digest_121) ?_
    refine snd_cons (snd_lload_n X dL_digest_124 rfl) ?_
    refine snd_cons (snd_lmul X dL_digest_125) ?_
    refine snd_cons (snd_aload_n X dL_digest_126 rfl) ?_
    refine snd_cons (snd_iload_n X dL_digest_127 rfl) ?_
    refine snd_cons (snd_bipush X dL_digest_128 (by decide)) ?_
    refine snd_cons (snd_idiv X dL_digest_130) ?_
    exact snd_nil
  refine snd_cons (snd_iload_n X dL_digest_131 rfl) ?_
  refine snd_cons (snd_iconst X dL_digest_132 (by decide)) ?_
  refine snd_cons (snd_idiv X dL_digest_133) ?_
  refine snd_cons (snd_bipush X dL_digest_134 (by decide)) ?_
  refine snd_cons (snd_irem X dL_digest_136) ?_
  refine snd_cons (snd_iload_n X dL_digest_137 rfl) ?_
  refine snd_cons (snd_iconst X dL_digest_138 (by decide)) ?_
  refine snd_cons (snd_irem X dL_digest_139) ?_
  refine snd_cons (snd_callV X Fk7 (oq_partOf g B s ss T n f l D ca) rfl rfl w_362 w_363 w_364 w_1 w_365 (by decide) (by decide) dL_digest_140) ?_
  refine snd_cons (snd_i2l X dL_digest_143) ?_
  refine snd_cons (snd_ladd X dL_digest_144) ?_
  refine snd_cons (snd_lstore_n X dL_digest_145 rfl (by decide)) ?_
  refine snd_cons (snd_iinc X dL_digest_146 (by decide) (by decide)) ?_
  refine snd_cons (snd_goto X dL_digest_149 (by decide)) ?_
  refine snd_cons (snd_lload_n X dL_digest_152 rfl) ?_
  refine snd_cons (snd_lret X dL_digest_153) ?_
  exact snd_nil
theorem k_L_digest_0 {g : Nat → Nat} {B : Nat} {s : Nat → Int32} {ss : Nat} {T : Nat → Int32} {n : Nat} {f : Nat → Int32} (ca : Nat → ClassId) : k_L_digest g B s ss T n f ca 0 = i_push (.long 53) 3 := rfl
theorem k_L_digest_3 {g : Nat → Nat} {B : Nat} {s : Nat → Int32} {ss : Nat} {T : Nat → Int32} {n : Nat} {f : Nat → Int32} (ca : Nat → ClassId) : k_L_digest g B s ss T n f ca 3 = i_lstore 1 4 := rfl
theorem k_L_digest_4 {g : Nat → Nat} {B : Nat} {s : Nat → Int32} {ss : Nat} {T : Nat → Int32} {n : Nat} {f : Nat → Int32} (ca : Nat → ClassId) : k_L_digest g B s ss T n f ca 4 = i_push (.int 0) 5 := rfl
theorem k_L_digest_5 {g : Nat → Nat} {B : Nat} {s : Nat → Int32} {ss : Nat} {T : Nat → Int32} {n : Nat} {f : Nat → Int32} (ca : Nat → ClassId) : k_L_digest g B s ss T n f ca 5 = i_istore 3 6 := rfl
theorem k_L_digest_6 {g : Nat → Nat} {B : Nat} {s : Nat → Int32} {ss : Nat} {T : Nat → Int32} {n : Nat} {f : Nat → Int32} (ca : Nat → ClassId) : k_L_digest g B s ss T n f ca 6 = i_iload 3 7 := rfl
theorem k_L_digest_7 {g : Nat → Nat} {B : Nat} {s : Nat → Int32} {ss : Nat} {T : Nat → Int32} {n : Nat} {f : Nat → Int32} (ca : Nat → ClassId) : k_L_digest g B s ss T n f ca 7 = i_push (.int 16) 9 := rfl
theorem k_L_digest_9 {g : Nat → Nat} {B : Nat} {s : Nat → Int32} {ss : Nat} {T : Nat → Int32} {n : Nat} {f : Nat → Int32} (ca : Nat → ClassId) : k_L_digest g B s ss T n f ca 9 = i_icmp (fun x y => y ≤ x) 45 12 := rfl
theorem k_L_digest_12 {g : Nat → Nat} {B : Nat} {s : Nat → Int32} {ss : Nat} {T : Nat → Int32} {n : Nat} {f : Nat → Int32} (ca : Nat → ClassId) : k_L_digest g B s ss T n f ca 12 = i_push (.long 31) 15 := rfl
theorem k_L_digest_15 {g : Nat → Nat} {B : Nat} {s : Nat → Int32} {ss : Nat} {T : Nat → Int32} {n : Nat} {f : Nat → Int32} (ca : Nat → ClassId) : k_L_digest g B s ss T n f ca 15 = i_lload 1 16 := rfl
theorem k_L_digest_16 {g : Nat → Nat} {B : Nat} {s : Nat → Int32} {ss : Nat} {T : Nat → Int32} {n : Nat} {f : Nat → Int32} (ca : Nat → ClassId) : k_L_digest g B s ss T n f ca 16 = i_lbin (fun x y => x * y) 17 := rfl
theorem k_L_digest_17 {g : Nat → Nat} {B : Nat} {s : Nat → Int32} {ss : Nat} {T : Nat → Int32} {n : Nat} {f : Nat → Int32} (ca : Nat → ClassId) : k_L_digest g B s ss T n f ca 17 = i_iload 3 18 := rfl
theorem k_L_digest_18 {g : Nat → Nat} {B : Nat} {s : Nat → Int32} {ss : Nat} {T : Nat → Int32} {n : Nat} {f : Nat → Int32} (ca : Nat → ClassId) : k_L_digest g B s ss T n f ca 18 = i_push (.int 3) 19 := rfl
theorem k_L_digest_19 {g : Nat → Nat} {B : Nat} {s : Nat → Int32} {ss : Nat} {T : Nat → Int32} {n : Nat} {f : Nat → Int32} (ca : Nat → ClassId) : k_L_digest g B s ss T n f ca 19 = i_icmp (fun x y => x = y) 27 22 := rfl
theorem k_L_digest_22 {g : Nat → Nat} {B : Nat} {s : Nat → Int32} {ss : Nat} {T : Nat → Int32} {n : Nat} {f : Nat → Int32} (ca : Nat → ClassId) : k_L_digest g B s ss T n f ca 22 = i_iload 3 23 := rfl
theorem k_L_digest_23 {g : Nat → Nat} {B : Nat} {s : Nat → Int32} {ss : Nat} {T : Nat → Int32} {n : Nat} {f : Nat → Int32} (ca : Nat → ClassId) : k_L_digest g B s ss T n f ca 23 = i_push (.int 4) 24 := rfl
theorem k_L_digest_24 {g : Nat → Nat} {B : Nat} {s : Nat → Int32} {ss : Nat} {T : Nat → Int32} {n : Nat} {f : Nat → Int32} (ca : Nat → ClassId) : k_L_digest g B s ss T n f ca 24 = i_icmp (fun x y => ¬ x = y) 31 27 := rfl
theorem k_L_digest_27 {g : Nat → Nat} {B : Nat} {s : Nat → Int32} {ss : Nat} {T : Nat → Int32} {n : Nat} {f : Nat → Int32} (ca : Nat → ClassId) : k_L_digest g B s ss T n f ca 27 = i_push (.int 0) 28 := rfl
theorem k_L_digest_28 {g : Nat → Nat} {B : Nat} {s : Nat → Int32} {ss : Nat} {T : Nat → Int32} {n : Nat} {f : Nat → Int32} (ca : Nat → ClassId) : k_L_digest g B s ss T n f ca 28 = i_goto 36 := rfl
theorem k_L_digest_31 {g : Nat → Nat} {B : Nat} {s : Nat → Int32} {ss : Nat} {T : Nat → Int32} {n : Nat} {f : Nat → Int32} (ca : Nat → ClassId) : k_L_digest g B s ss T n f ca 31 = i_aload 0 32 := rfl
theorem k_L_digest_32 {g : Nat → Nat} {B : Nat} {s : Nat → Int32} {ss : Nat} {T : Nat → Int32} {n : Nat} {f : Nat → Int32} (ca : Nat → ClassId) : k_L_digest g B s ss T n f ca 32 = i_iload 3 33 := rfl
theorem k_L_digest_33 {g : Nat → Nat} {B : Nat} {s : Nat → Int32} {ss : Nat} {T : Nat → Int32} {n : Nat} {f : Nat → Int32} (ca : Nat → ClassId) : k_L_digest g B s ss T n f ca 33 = i_callV 7 1 0 0 0 0 (sq_count g B s ss T n f ca) 36 := rfl
theorem k_L_digest_36 {g : Nat → Nat} {B : Nat} {s : Nat → Int32} {ss : Nat} {T : Nat → Int32} {n : Nat} {f : Nat → Int32} (ca : Nat → ClassId) : k_L_digest g B s ss T n f ca 36 = i_i2l 37 := rfl
theorem k_L_digest_37 {g : Nat → Nat} {B : Nat} {s : Nat → Int32} {ss : Nat} {T : Nat → Int32} {n : Nat} {f : Nat → Int32} (ca : Nat → ClassId) : k_L_digest g B s ss T n f ca 37 = i_lbin (fun x y => x + y) 38 := rfl
theorem k_L_digest_38 {g : Nat → Nat} {B : Nat} {s : Nat → Int32} {ss : Nat} {T : Nat → Int32} {n : Nat} {f : Nat → Int32} (ca : Nat → ClassId) : k_L_digest g B s ss T n f ca 38 = i_lstore 1 39 := rfl
theorem k_L_digest_39 {g : Nat → Nat} {B : Nat} {s : Nat → Int32} {ss : Nat} {T : Nat → Int32} {n : Nat} {f : Nat → Int32} (ca : Nat → ClassId) : k_L_digest g B s ss T n f ca 39 = i_iinc 3 1 42 := rfl
theorem k_L_digest_42 {g : Nat → Nat} {B : Nat} {s : Nat → Int32} {ss : Nat} {T : Nat → Int32} {n : Nat} {f : Nat → Int32} (ca : Nat → ClassId) : k_L_digest g B s ss T n f ca 42 = i_goto 6 := rfl
theorem k_L_digest_45 {g : Nat → Nat} {B : Nat} {s : Nat → Int32} {ss : Nat} {T : Nat → Int32} {n : Nat} {f : Nat → Int32} (ca : Nat → ClassId) : k_L_digest g B s ss T n f ca 45 = i_push (.int 0) 46 := rfl
theorem k_L_digest_46 {g : Nat → Nat} {B : Nat} {s : Nat → Int32} {ss : Nat} {T : Nat → Int32} {n : Nat} {f : Nat → Int32} (ca : Nat → ClassId) : k_L_digest g B s ss T n f ca 46 = i_istore 3 47 := rfl
theorem k_L_digest_47 {g : Nat → Nat} {B : Nat} {s : Nat → Int32} {ss : Nat} {T : Nat → Int32} {n : Nat} {f : Nat → Int32} (ca : Nat → ClassId) : k_L_digest g B s ss T n f ca 47 = i_iload 3 48 := rfl
theorem k_L_digest_48 {g : Nat → Nat} {B : Nat} {s : Nat → Int32} {ss : Nat} {T : Nat → Int32} {n : Nat} {f : Nat → Int32} (ca : Nat → ClassId) : k_L_digest g B s ss T n f ca 48 = i_push (.int 36) 50 := rfl
theorem k_L_digest_50 {g : Nat → Nat} {B : Nat} {s : Nat → Int32} {ss : Nat} {T : Nat → Int32} {n : Nat} {f : Nat → Int32} (ca : Nat → ClassId) : k_L_digest g B s ss T n f ca 50 = i_icmp (fun x y => y ≤ x) 79 53 := rfl
theorem k_L_digest_53 {g : Nat → Nat} {B : Nat} {s : Nat → Int32} {ss : Nat} {T : Nat → Int32} {n : Nat} {f : Nat → Int32} (ca : Nat → ClassId) : k_L_digest g B s ss T n f ca 53 = i_push (.long 31) 56 := rfl
theorem k_L_digest_56 {g : Nat → Nat} {B : Nat} {s : Nat → Int32} {ss : Nat} {T : Nat → Int32} {n : Nat} {f : Nat → Int32} (ca : Nat → ClassId) : k_L_digest g B s ss T n f ca 56 = i_lload 1 57 := rfl
theorem k_L_digest_57 {g : Nat → Nat} {B : Nat} {s : Nat → Int32} {ss : Nat} {T : Nat → Int32} {n : Nat} {f : Nat → Int32} (ca : Nat → ClassId) : k_L_digest g B s ss T n f ca 57 = i_lbin (fun x y => x * y) 58 := rfl
theorem k_L_digest_58 {g : Nat → Nat} {B : Nat} {s : Nat → Int32} {ss : Nat} {T : Nat → Int32} {n : Nat} {f : Nat → Int32} (ca : Nat → ClassId) : k_L_digest g B s ss T n f ca 58 = i_aload 0 59 := rfl
theorem k_L_digest_59 {g : Nat → Nat} {B : Nat} {s : Nat → Int32} {ss : Nat} {T : Nat → Int32} {n : Nat} {f : Nat → Int32} (ca : Nat → ClassId) : k_L_digest g B s ss T n f ca 59 = i_iload 3 60 := rfl
theorem k_L_digest_60 {g : Nat → Nat} {B : Nat} {s : Nat → Int32} {ss : Nat} {T : Nat → Int32} {n : Nat} {f : Nat → Int32} (ca : Nat → ClassId) : k_L_digest g B s ss T n f ca 60 = i_push (.int 12) 62 := rfl
theorem k_L_digest_62 {g : Nat → Nat} {B : Nat} {s : Nat → Int32} {ss : Nat} {T : Nat → Int32} {n : Nat} {f : Nat → Int32} (ca : Nat → ClassId) : k_L_digest g B s ss T n f ca 62 = i_dv (fun x y => x / y) 63 := rfl
theorem k_L_digest_63 {g : Nat → Nat} {B : Nat} {s : Nat → Int32} {ss : Nat} {T : Nat → Int32} {n : Nat} {f : Nat → Int32} (ca : Nat → ClassId) : k_L_digest g B s ss T n f ca 63 = i_iload 3 64 := rfl
theorem k_L_digest_64 {g : Nat → Nat} {B : Nat} {s : Nat → Int32} {ss : Nat} {T : Nat → Int32} {n : Nat} {f : Nat → Int32} (ca : Nat → ClassId) : k_L_digest g B s ss T n f ca 64 = i_push (.int 12) 66 := rfl
theorem k_L_digest_66 {g : Nat → Nat} {B : Nat} {s : Nat → Int32} {ss : Nat} {T : Nat → Int32} {n : Nat} {f : Nat → Int32} (ca : Nat → ClassId) : k_L_digest g B s ss T n f ca 66 = i_dv (fun x y => x - x / y * y) 67 := rfl
theorem k_L_digest_67 {g : Nat → Nat} {B : Nat} {s : Nat → Int32} {ss : Nat} {T : Nat → Int32} {n : Nat} {f : Nat → Int32} (ca : Nat → ClassId) : k_L_digest g B s ss T n f ca 67 = i_callV 7 2 0 0 0 0 (sq_stripOf g B s ss T n f ca) 70 := rfl
theorem k_L_digest_70 {g : Nat → Nat} {B : Nat} {s : Nat → Int32} {ss : Nat} {T : Nat → Int32} {n : Nat} {f : Nat → Int32} (ca : Nat → ClassId) : k_L_digest g B s ss T n f ca 70 = i_i2l 71 := rfl
theorem k_L_digest_71 {g : Nat → Nat} {B : Nat} {s : Nat → Int32} {ss : Nat} {T : Nat → Int32} {n : Nat} {f : Nat → Int32} (ca : Nat → ClassId) : k_L_digest g B s ss T n f ca 71 = i_lbin (fun x y => x + y) 72 := rfl
theorem k_L_digest_72 {g : Nat → Nat} {B : Nat} {s : Nat → Int32} {ss : Nat} {T : Nat → Int32} {n : Nat} {f : Nat → Int32} (ca : Nat → ClassId) : k_L_digest g B s ss T n f ca 72 = i_lstore 1 73 := rfl
theorem k_L_digest_73 {g : Nat → Nat} {B : Nat} {s : Nat → Int32} {ss : Nat} {T : Nat → Int32} {n : Nat} {f : Nat → Int32} (ca : Nat → ClassId) : k_L_digest g B s ss T n f ca 73 = i_iinc 3 1 76 := rfl
theorem k_L_digest_76 {g : Nat → Nat} {B : Nat} {s : Nat → Int32} {ss : Nat} {T : Nat → Int32} {n : Nat} {f : Nat → Int32} (ca : Nat → ClassId) : k_L_digest g B s ss T n f ca 76 = i_goto 47 := rfl
theorem k_L_digest_79 {g : Nat → Nat} {B : Nat} {s : Nat → Int32} {ss : Nat} {T : Nat → Int32} {n : Nat} {f : Nat → Int32} (ca : Nat → ClassId) : k_L_digest g B s ss T n f ca 79 = i_push (.int 0) 80 := rfl
theorem k_L_digest_80 {g : Nat → Nat} {B : Nat} {s : Nat → Int32} {ss : Nat} {T : Nat → Int32} {n : Nat} {f : Nat → Int32} (ca : Nat → ClassId) : k_L_digest g B s ss T n f ca 80 = i_istore 3 81 := rfl
theorem k_L_digest_81 {g : Nat → Nat} {B : Nat} {s : Nat → Int32} {ss : Nat} {T : Nat → Int32} {n : Nat} {f : Nat → Int32} (ca : Nat → ClassId) : k_L_digest g B s ss T n f ca 81 = i_iload 3 82 := rfl
theorem k_L_digest_82 {g : Nat → Nat} {B : Nat} {s : Nat → Int32} {ss : Nat} {T : Nat → Int32} {n : Nat} {f : Nat → Int32} (ca : Nat → ClassId) : k_L_digest g B s ss T n f ca 82 = i_push (.int 21) 84 := rfl
theorem k_L_digest_84 {g : Nat → Nat} {B : Nat} {s : Nat → Int32} {ss : Nat} {T : Nat → Int32} {n : Nat} {f : Nat → Int32} (ca : Nat → ClassId) : k_L_digest g B s ss T n f ca 84 = i_icmp (fun x y => y ≤ x) 113 87 := rfl
theorem k_L_digest_87 {g : Nat → Nat} {B : Nat} {s : Nat → Int32} {ss : Nat} {T : Nat → Int32} {n : Nat} {f : Nat → Int32} (ca : Nat → ClassId) : k_L_digest g B s ss T n f ca 87 = i_push (.long 31) 90 := rfl
theorem k_L_digest_90 {g : Nat → Nat} {B : Nat} {s : Nat → Int32} {ss : Nat} {T : Nat → Int32} {n : Nat} {f : Nat → Int32} (ca : Nat → ClassId) : k_L_digest g B s ss T n f ca 90 = i_lload 1 91 := rfl
theorem k_L_digest_91 {g : Nat → Nat} {B : Nat} {s : Nat → Int32} {ss : Nat} {T : Nat → Int32} {n : Nat} {f : Nat → Int32} (ca : Nat → ClassId) : k_L_digest g B s ss T n f ca 91 = i_lbin (fun x y => x * y) 92 := rfl
theorem k_L_digest_92 {g : Nat → Nat} {B : Nat} {s : Nat → Int32} {ss : Nat} {T : Nat → Int32} {n : Nat} {f : Nat → Int32} (ca : Nat → ClassId) : k_L_digest g B s ss T n f ca 92 = i_aload 0 93 := rfl
theorem k_L_digest_93 {g : Nat → Nat} {B : Nat} {s : Nat → Int32} {ss : Nat} {T : Nat → Int32} {n : Nat} {f : Nat → Int32} (ca : Nat → ClassId) : k_L_digest g B s ss T n f ca 93 = i_iload 3 94 := rfl
theorem k_L_digest_94 {g : Nat → Nat} {B : Nat} {s : Nat → Int32} {ss : Nat} {T : Nat → Int32} {n : Nat} {f : Nat → Int32} (ca : Nat → ClassId) : k_L_digest g B s ss T n f ca 94 = i_push (.int 7) 96 := rfl
theorem k_L_digest_96 {g : Nat → Nat} {B : Nat} {s : Nat → Int32} {ss : Nat} {T : Nat → Int32} {n : Nat} {f : Nat → Int32} (ca : Nat → ClassId) : k_L_digest g B s ss T n f ca 96 = i_dv (fun x y => x / y) 97 := rfl
theorem k_L_digest_97 {g : Nat → Nat} {B : Nat} {s : Nat → Int32} {ss : Nat} {T : Nat → Int32} {n : Nat} {f : Nat → Int32} (ca : Nat → ClassId) : k_L_digest g B s ss T n f ca 97 = i_iload 3 98 := rfl
theorem k_L_digest_98 {g : Nat → Nat} {B : Nat} {s : Nat → Int32} {ss : Nat} {T : Nat → Int32} {n : Nat} {f : Nat → Int32} (ca : Nat → ClassId) : k_L_digest g B s ss T n f ca 98 = i_push (.int 7) 100 := rfl
theorem k_L_digest_100 {g : Nat → Nat} {B : Nat} {s : Nat → Int32} {ss : Nat} {T : Nat → Int32} {n : Nat} {f : Nat → Int32} (ca : Nat → ClassId) : k_L_digest g B s ss T n f ca 100 = i_dv (fun x y => x - x / y * y) 101 := rfl
theorem k_L_digest_101 {g : Nat → Nat} {B : Nat} {s : Nat → Int32} {ss : Nat} {T : Nat → Int32} {n : Nat} {f : Nat → Int32} (ca : Nat → ClassId) : k_L_digest g B s ss T n f ca 101 = i_callV 7 2 0 0 0 0 (sq_roomOf g B s ss T n f ca) 104 := rfl
theorem k_L_digest_104 {g : Nat → Nat} {B : Nat} {s : Nat → Int32} {ss : Nat} {T : Nat → Int32} {n : Nat} {f : Nat → Int32} (ca : Nat → ClassId) : k_L_digest g B s ss T n f ca 104 = i_i2l 105 := rfl
theorem k_L_digest_105 {g : Nat → Nat} {B : Nat} {s : Nat → Int32} {ss : Nat} {T : Nat → Int32} {n : Nat} {f : Nat → Int32} (ca : Nat → ClassId) : k_L_digest g B s ss T n f ca 105 = i_lbin (fun x y => x + y) 106 := rfl
theorem k_L_digest_106 {g : Nat → Nat} {B : Nat} {s : Nat → Int32} {ss : Nat} {T : Nat → Int32} {n : Nat} {f : Nat → Int32} (ca : Nat → ClassId) : k_L_digest g B s ss T n f ca 106 = i_lstore 1 107 := rfl
theorem k_L_digest_107 {g : Nat → Nat} {B : Nat} {s : Nat → Int32} {ss : Nat} {T : Nat → Int32} {n : Nat} {f : Nat → Int32} (ca : Nat → ClassId) : k_L_digest g B s ss T n f ca 107 = i_iinc 3 1 110 := rfl
theorem k_L_digest_110 {g : Nat → Nat} {B : Nat} {s : Nat → Int32} {ss : Nat} {T : Nat → Int32} {n : Nat} {f : Nat → Int32} (ca : Nat → ClassId) : k_L_digest g B s ss T n f ca 110 = i_goto 81 := rfl
theorem k_L_digest_113 {g : Nat → Nat} {B : Nat} {s : Nat → Int32} {ss : Nat} {T : Nat → Int32} {n : Nat} {f : Nat → Int32} (ca : Nat → ClassId) : k_L_digest g B s ss T n f ca 113 = i_push (.int 0) 114 := rfl
theorem k_L_digest_114 {g : Nat → Nat} {B : Nat} {s : Nat → Int32} {ss : Nat} {T : Nat → Int32} {n : Nat} {f : Nat → Int32} (ca : Nat → ClassId) : k_L_digest g B s ss T n f ca 114 = i_istore 3 115 := rfl
theorem k_L_digest_115 {g : Nat → Nat} {B : Nat} {s : Nat → Int32} {ss : Nat} {T : Nat → Int32} {n : Nat} {f : Nat → Int32} (ca : Nat → ClassId) : k_L_digest g B s ss T n f ca 115 = i_iload 3 116 := rfl
theorem k_L_digest_116 {g : Nat → Nat} {B : Nat} {s : Nat → Int32} {ss : Nat} {T : Nat → Int32} {n : Nat} {f : Nat → Int32} (ca : Nat → ClassId) : k_L_digest g B s ss T n f ca 116 = i_push (.int 72) 118 := rfl
theorem k_L_digest_118 {g : Nat → Nat} {B : Nat} {s : Nat → Int32} {ss : Nat} {T : Nat → Int32} {n : Nat} {f : Nat → Int32} (ca : Nat → ClassId) : k_L_digest g B s ss T n f ca 118 = i_icmp (fun x y => y ≤ x) 152 121 := rfl
theorem k_L_digest_121 {g : Nat → Nat} {B : Nat} {s : Nat → Int32} {ss : Nat} {T : Nat → Int32} {n : Nat} {f : Nat → Int32} (ca : Nat → ClassId) : k_L_digest g B s ss T n f ca 121 = i_push (.long 31) 124 := rfl
theorem k_L_digest_124 {g : Nat → Nat} {B : Nat} {s : Nat → Int32} {ss : Nat} {T : Nat → Int32} {n : Nat} {f : Nat → Int32} (ca : Nat → ClassId) : k_L_digest g B s ss T n f ca 124 = i_lload 1 125 := rfl
theorem k_L_digest_125 {g : Nat → Nat} {B : Nat} {s : Nat → Int32} {ss : Nat} {T : Nat → Int32} {n : Nat} {f : Nat → Int32} (ca : Nat → ClassId) : k_L_digest g B s ss T n f ca 125 = i_lbin (fun x y => x * y) 126 := rfl
theorem k_L_digest_126 {g : Nat → Nat} {B : Nat} {s : Nat → Int32} {ss : Nat} {T : Nat → Int32} {n : Nat} {f : Nat → Int32} (ca : Nat → ClassId) : k_L_digest g B s ss T n f ca 126 = i_aload 0 127 := rfl
theorem k_L_digest_127 {g : Nat → Nat} {B : Nat} {s : Nat → Int32} {ss : Nat} {T : Nat → Int32} {n : Nat} {f : Nat → Int32} (ca : Nat → ClassId) : k_L_digest g B s ss T n f ca 127 = i_iload 3 128 := rfl
theorem k_L_digest_128 {g : Nat → Nat} {B : Nat} {s : Nat → Int32} {ss : Nat} {T : Nat → Int32} {n : Nat} {f : Nat → Int32} (ca : Nat → ClassId) : k_L_digest g B s ss T n f ca 128 = i_push (.int 24) 130 := rfl
theorem k_L_digest_130 {g : Nat → Nat} {B : Nat} {s : Nat → Int32} {ss : Nat} {T : Nat → Int32} {n : Nat} {f : Nat → Int32} (ca : Nat → ClassId) : k_L_digest g B s ss T n f ca 130 = i_dv (fun x y => x / y) 131 := rfl
theorem k_L_digest_131 {g : Nat → Nat} {B : Nat} {s : Nat → Int32} {ss : Nat} {T : Nat → Int32} {n : Nat} {f : Nat → Int32} (ca : Nat → ClassId) : k_L_digest g B s ss T n f ca 131 = i_iload 3 132 := rfl
theorem k_L_digest_132 {g : Nat → Nat} {B : Nat} {s : Nat → Int32} {ss : Nat} {T : Nat → Int32} {n : Nat} {f : Nat → Int32} (ca : Nat → ClassId) : k_L_digest g B s ss T n f ca 132 = i_push (.int 3) 133 := rfl
theorem k_L_digest_133 {g : Nat → Nat} {B : Nat} {s : Nat → Int32} {ss : Nat} {T : Nat → Int32} {n : Nat} {f : Nat → Int32} (ca : Nat → ClassId) : k_L_digest g B s ss T n f ca 133 = i_dv (fun x y => x / y) 134 := rfl
theorem k_L_digest_134 {g : Nat → Nat} {B : Nat} {s : Nat → Int32} {ss : Nat} {T : Nat → Int32} {n : Nat} {f : Nat → Int32} (ca : Nat → ClassId) : k_L_digest g B s ss T n f ca 134 = i_push (.int 8) 136 := rfl
theorem k_L_digest_136 {g : Nat → Nat} {B : Nat} {s : Nat → Int32} {ss : Nat} {T : Nat → Int32} {n : Nat} {f : Nat → Int32} (ca : Nat → ClassId) : k_L_digest g B s ss T n f ca 136 = i_dv (fun x y => x - x / y * y) 137 := rfl
theorem k_L_digest_137 {g : Nat → Nat} {B : Nat} {s : Nat → Int32} {ss : Nat} {T : Nat → Int32} {n : Nat} {f : Nat → Int32} (ca : Nat → ClassId) : k_L_digest g B s ss T n f ca 137 = i_iload 3 138 := rfl
theorem k_L_digest_138 {g : Nat → Nat} {B : Nat} {s : Nat → Int32} {ss : Nat} {T : Nat → Int32} {n : Nat} {f : Nat → Int32} (ca : Nat → ClassId) : k_L_digest g B s ss T n f ca 138 = i_push (.int 3) 139 := rfl
theorem k_L_digest_139 {g : Nat → Nat} {B : Nat} {s : Nat → Int32} {ss : Nat} {T : Nat → Int32} {n : Nat} {f : Nat → Int32} (ca : Nat → ClassId) : k_L_digest g B s ss T n f ca 139 = i_dv (fun x y => x - x / y * y) 140 := rfl
theorem k_L_digest_140 {g : Nat → Nat} {B : Nat} {s : Nat → Int32} {ss : Nat} {T : Nat → Int32} {n : Nat} {f : Nat → Int32} (ca : Nat → ClassId) : k_L_digest g B s ss T n f ca 140 = i_callV 7 3 0 0 0 0 (sq_partOf g B s ss T n f ca) 143 := rfl
theorem k_L_digest_143 {g : Nat → Nat} {B : Nat} {s : Nat → Int32} {ss : Nat} {T : Nat → Int32} {n : Nat} {f : Nat → Int32} (ca : Nat → ClassId) : k_L_digest g B s ss T n f ca 143 = i_i2l 144 := rfl
theorem k_L_digest_144 {g : Nat → Nat} {B : Nat} {s : Nat → Int32} {ss : Nat} {T : Nat → Int32} {n : Nat} {f : Nat → Int32} (ca : Nat → ClassId) : k_L_digest g B s ss T n f ca 144 = i_lbin (fun x y => x + y) 145 := rfl
theorem k_L_digest_145 {g : Nat → Nat} {B : Nat} {s : Nat → Int32} {ss : Nat} {T : Nat → Int32} {n : Nat} {f : Nat → Int32} (ca : Nat → ClassId) : k_L_digest g B s ss T n f ca 145 = i_lstore 1 146 := rfl
theorem k_L_digest_146 {g : Nat → Nat} {B : Nat} {s : Nat → Int32} {ss : Nat} {T : Nat → Int32} {n : Nat} {f : Nat → Int32} (ca : Nat → ClassId) : k_L_digest g B s ss T n f ca 146 = i_iinc 3 1 149 := rfl
theorem k_L_digest_149 {g : Nat → Nat} {B : Nat} {s : Nat → Int32} {ss : Nat} {T : Nat → Int32} {n : Nat} {f : Nat → Int32} (ca : Nat → ClassId) : k_L_digest g B s ss T n f ca 149 = i_goto 115 := rfl
theorem k_L_digest_152 {g : Nat → Nat} {B : Nat} {s : Nat → Int32} {ss : Nat} {T : Nat → Int32} {n : Nat} {f : Nat → Int32} (ca : Nat → ClassId) : k_L_digest g B s ss T n f ca 152 = i_lload 1 153 := rfl
theorem k_L_digest_153 {g : Nat → Nat} {B : Nat} {s : Nat → Int32} {ss : Nat} {T : Nat → Int32} {n : Nat} {f : Nat → Int32} (ca : Nat → ClassId) : k_L_digest g B s ss T n f ca 153 = i_lret := rfl
theorem ge_f {k N : Nat} (h : k < N) (hN : N < 2 ^ 31) : (nI N ≤ nI k) = False := eq_false (nI_ge h hN)
theorem ge_t {N : Nat} : (nI N ≤ nI N) = True := eq_true (Int32.le_refl _)
set_option maxHeartbeats 4000000 in
set_option maxRecDepth 20000 in
theorem ok_L_digest (l : Launch) (D : va_G) (ca : Nat → ClassId) : OkAll l D ca yL_digest cL_digest 4 (some .long) 4 0 0 (sp_L_digest ca) := by
  intro av h post hs
  obtain ⟨g, B, s, ss, T, n, f, rfl, H, hs⟩ := hs
  obtain ⟨fs, c7⟩ := H.cell
  have z12 : ¬ (12 : Int32) = 0 := by decide
  have z7 : ¬ (7 : Int32) = 0 := by decide
  have z24 : ¬ (24 : Int32) = 0 := by decide
  have z3 : ¬ (3 : Int32) = 0 := by decide
  have z8 : ¬ (8 : Int32) = 0 := by decide
  refine okM_of (t_L_digest g B s ss T n f) (by decide +kernel) (c1_ref c1_nil) (Nat.le_of_ble_eq_true rfl) ?_
  intro K go
  have l4 : ∀ r k d, k + r = 72 → d = dgL (dg4 s) (dgL (dg3 s) (dgL (dg2 s) (dgL (dg1 s) 53 16) 36) 21) k → K 0 0 115 [some (.ref (g 0)), some (.long d), none, some (.int (nI k))] [] h := by
    intro r
    induction r with
    | zero =>
      intro k d hk hd
      have ek : k = 72 := by omega
      subst ek
      have e1 : ((72 : Int32) ≤ nI 72) = True := ge_t
      subst hd
      refine goN go (stp []) 160 _ _ _ _ _ _ (fun F hF hF0 => ?_)
      simp only [hF, hF0, ite_not, i_push, i_iload, i_lload, i_aload, i_istore, i_astore, i_lstore, i_iinc, i_bin, i_dv, i_un, i_lbin, i_lsh, i_i2l, i_l2i, i_lcmp, i_dup, i_dup2, i_pop, i_if, i_icmp, i_goto, swG, i_sw, i_getf, i_puti, i_putz, i_putr, i_ald, i_lald, i_aald, i_ast, i_last, i_aast, i_alen, i_new, i_newi, i_newl, i_newq, i_oinit, i_ret, i_zret, i_lret, i_vret, catS, tk, rpush, isO, i_m1, i_m2, i_acopy, i_callV, i_callS, KRet, lget, lput, lputL, lcl0, isL, lv0, List.map_cons, List.map_nil, List.length_cons, List.length_nil, List.cons_append, List.nil_append, Nat.reduceAdd, Nat.reduceSub, Nat.reduceLeDiff, List.replicate_succ, List.replicate_zero, List.getElem?_cons_succ, List.getElem?_cons_zero, List.set_cons_succ, List.set_cons_zero, true_and, and_true, if_true, if_false, ↓reduceIte, Nat.le_refl, Value.category, va_up_app, eq_self, stp, Nat.reduceBEq, Bool.or_false, Bool.false_or, Bool.true_or, Bool.or_true, or_true, true_or, bx_uu, implies_true, true_implies, not_true, not_false_eq_true, false_implies, and_self, Nat.reduceLT, Int32.reduceAdd, Int32.reduceSub, Int32.reduceMul, Int32.reduceLE, Int32.reduceLT, Int32.reduceToNatClampNeg, va_rf_some, Bool.false_eq_true, k_L_digest_0 ca, k_L_digest_3 ca, k_L_digest_4 ca, k_L_digest_5 ca, k_L_digest_6 ca, k_L_digest_7 ca, k_L_digest_9 ca, k_L_digest_12 ca, k_L_digest_15 ca, k_L_digest_16 ca, k_L_digest_17 ca, k_L_digest_18 ca, k_L_digest_19 ca, k_L_digest_22 ca, k_L_digest_23 ca, k_L_digest_24 ca, k_L_digest_27 ca, k_L_digest_28 ca, k_L_digest_31 ca, k_L_digest_32 ca, k_L_digest_33 ca, k_L_digest_36 ca, k_L_digest_37 ca, k_L_digest_38 ca, k_L_digest_39 ca, k_L_digest_42 ca, k_L_digest_45 ca, k_L_digest_46 ca, k_L_digest_47 ca, k_L_digest_48 ca, k_L_digest_50 ca, k_L_digest_53 ca, k_L_digest_56 ca, k_L_digest_57 ca, k_L_digest_58 ca, k_L_digest_59 ca, k_L_digest_60 ca, k_L_digest_62 ca, k_L_digest_63 ca, k_L_digest_64 ca, k_L_digest_66 ca, k_L_digest_67 ca, k_L_digest_70 ca, k_L_digest_71 ca, k_L_digest_72 ca, k_L_digest_73 ca, k_L_digest_76 ca, k_L_digest_79 ca, k_L_digest_80 ca, k_L_digest_81 ca, k_L_digest_82 ca, k_L_digest_84 ca, k_L_digest_87 ca, k_L_digest_90 ca, k_L_digest_91 ca, k_L_digest_92 ca, k_L_digest_93 ca, k_L_digest_94 ca, k_L_digest_96 ca, k_L_digest_97 ca, k_L_digest_98 ca, k_L_digest_100 ca, k_L_digest_101 ca, k_L_digest_104 ca, k_L_digest_105 ca, k_L_digest_106 ca, k_L_digest_107 ca, k_L_digest_110 ca, k_L_digest_113 ca, k_L_digest_114 ca, k_L_digest_115 ca, k_L_digest_116 ca, k_L_digest_118 ca, k_L_digest_121 ca, k_L_digest_124 ca, k_L_digest_125 ca, k_L_digest_126 ca, k_L_digest_127 ca, k_L_digest_128 ca, k_L_digest_130 ca, k_L_digest_131 ca, k_L_digest_132 ca, k_L_digest_133 ca, k_L_digest_134 ca, k_L_digest_136 ca, k_L_digest_137 ca, k_L_digest_138 ca, k_L_digest_139 ca, k_L_digest_140 ca, k_L_digest_143 ca, k_L_digest_144 ca, k_L_digest_145 ca, k_L_digest_146 ca, k_L_digest_149 ca, k_L_digest_152 ca, k_L_digest_153 ca, e1]
      try clear hF hF0 F
      exact hs
    | succ r ih =>
      intro k d hk hd
      have e1 : ((72 : Int32) ≤ nI k) = False := ge_f (N := 72) (by omega) (by decide)
      have k0 := ih (k + 1) (31 * d + (dg4 s k).toInt64) (by omega) (by rw [hd]; rfl)
      unfold dg4 at k0
      refine goN go (stp [115]) 160 _ _ _ _ _ _ (fun F hF hF0 => ?_)
      simp only [hF, hF0, ite_not, i_push, i_iload, i_lload, i_aload, i_istore, i_astore, i_lstore, i_iinc, i_bin, i_dv, i_un, i_lbin, i_lsh, i_i2l, i_l2i, i_lcmp, i_dup, i_dup2, i_pop, i_if, i_icmp, i_goto, swG, i_sw, i_getf, i_puti, i_putz, i_putr, i_ald, i_lald, i_aald, i_ast, i_last, i_aast, i_alen, i_new, i_newi, i_newl, i_newq, i_oinit, i_ret, i_zret, i_lret, i_vret, catS, tk, rpush, isO, i_m1, i_m2, i_acopy, i_callV, i_callS, KRet, lget, lput, lputL, lcl0, isL, lv0, List.map_cons, List.map_nil, List.length_cons, List.length_nil, List.cons_append, List.nil_append, Nat.reduceAdd, Nat.reduceSub, Nat.reduceLeDiff, List.replicate_succ, List.replicate_zero, List.getElem?_cons_succ, List.getElem?_cons_zero, List.set_cons_succ, List.set_cons_zero, true_and, and_true, if_true, if_false, ↓reduceIte, Nat.le_refl, Value.category, va_up_app, eq_self, stp, Nat.reduceBEq, Bool.or_false, Bool.false_or, Bool.true_or, Bool.or_true, or_true, true_or, bx_uu, implies_true, true_implies, not_true, not_false_eq_true, false_implies, and_self, Nat.reduceLT, Int32.reduceAdd, Int32.reduceSub, Int32.reduceMul, Int32.reduceLE, Int32.reduceLT, Int32.reduceToNatClampNeg, va_rf_some, Bool.false_eq_true, k_L_digest_0 ca, k_L_digest_3 ca, k_L_digest_4 ca, k_L_digest_5 ca, k_L_digest_6 ca, k_L_digest_7 ca, k_L_digest_9 ca, k_L_digest_12 ca, k_L_digest_15 ca, k_L_digest_16 ca, k_L_digest_17 ca, k_L_digest_18 ca, k_L_digest_19 ca, k_L_digest_22 ca, k_L_digest_23 ca, k_L_digest_24 ca, k_L_digest_27 ca, k_L_digest_28 ca, k_L_digest_31 ca, k_L_digest_32 ca, k_L_digest_33 ca, k_L_digest_36 ca, k_L_digest_37 ca, k_L_digest_38 ca, k_L_digest_39 ca, k_L_digest_42 ca, k_L_digest_45 ca, k_L_digest_46 ca, k_L_digest_47 ca, k_L_digest_48 ca, k_L_digest_50 ca, k_L_digest_53 ca, k_L_digest_56 ca, k_L_digest_57 ca, k_L_digest_58 ca, k_L_digest_59 ca, k_L_digest_60 ca, k_L_digest_62 ca, k_L_digest_63 ca, k_L_digest_64 ca, k_L_digest_66 ca, k_L_digest_67 ca, k_L_digest_70 ca, k_L_digest_71 ca, k_L_digest_72 ca, k_L_digest_73 ca, k_L_digest_76 ca, k_L_digest_79 ca, k_L_digest_80 ca, k_L_digest_81 ca, k_L_digest_82 ca, k_L_digest_84 ca, k_L_digest_87 ca, k_L_digest_90 ca, k_L_digest_91 ca, k_L_digest_92 ca, k_L_digest_93 ca, k_L_digest_94 ca, k_L_digest_96 ca, k_L_digest_97 ca, k_L_digest_98 ca, k_L_digest_100 ca, k_L_digest_101 ca, k_L_digest_104 ca, k_L_digest_105 ca, k_L_digest_106 ca, k_L_digest_107 ca, k_L_digest_110 ca, k_L_digest_113 ca, k_L_digest_114 ca, k_L_digest_115 ca, k_L_digest_116 ca, k_L_digest_118 ca, k_L_digest_121 ca, k_L_digest_124 ca, k_L_digest_125 ca, k_L_digest_126 ca, k_L_digest_127 ca, k_L_digest_128 ca, k_L_digest_130 ca, k_L_digest_131 ca, k_L_digest_132 ca, k_L_digest_133 ca, k_L_digest_134 ca, k_L_digest_136 ca, k_L_digest_137 ca, k_L_digest_138 ca, k_L_digest_139 ca, k_L_digest_140 ca, k_L_digest_143 ca, k_L_digest_144 ca, k_L_digest_145 ca, k_L_digest_146 ca, k_L_digest_149 ca, k_L_digest_152 ca, k_L_digest_153 ca, e1, c7, H, sq_partOf, z24, z3, z8, a_1]
      try clear hF hF0 F
      exact k0
  have l3 : ∀ r k d, k + r = 21 → d = dgL (dg3 s) (dgL (dg2 s) (dgL (dg1 s) 53 16) 36) k → K 0 0 81 [some (.ref (g 0)), some (.long d), none, some (.int (nI k))] [] h := by
    intro r
    induction r with
    | zero =>
      intro k d hk hd
      have ek : k = 21 := by omega
      subst ek
      have e1 : ((21 : Int32) ≤ nI 21) = True := ge_t
      have k0 := l4 72 0 d (by omega) hd
      rw [nI_0] at k0
      refine goN go (stp [115]) 160 _ _ _ _ _ _ (fun F hF hF0 => ?_)
      simp only [hF, hF0, ite_not, i_push, i_iload, i_lload, i_aload, i_istore, i_astore, i_lstore, i_iinc, i_bin, i_dv, i_un, i_lbin, i_lsh, i_i2l, i_l2i, i_lcmp, i_dup, i_dup2, i_pop, i_if, i_icmp, i_goto, swG, i_sw, i_getf, i_puti, i_putz, i_putr, i_ald, i_lald, i_aald, i_ast, i_last, i_aast, i_alen, i_new, i_newi, i_newl, i_newq, i_oinit, i_ret, i_zret, i_lret, i_vret, catS, tk, rpush, isO, i_m1, i_m2, i_acopy, i_callV, i_callS, KRet, lget, lput, lputL, lcl0, isL, lv0, List.map_cons, List.map_nil, List.length_cons, List.length_nil, List.cons_append, List.nil_append, Nat.reduceAdd, Nat.reduceSub, Nat.reduceLeDiff, List.replicate_succ, List.replicate_zero, List.getElem?_cons_succ, List.getElem?_cons_zero, List.set_cons_succ, List.set_cons_zero, true_and, and_true, if_true, if_false, ↓reduceIte, Nat.le_refl, Value.category, va_up_app, eq_self, stp, Nat.reduceBEq, Bool.or_false, Bool.false_or, Bool.true_or, Bool.or_true, or_true, true_or, bx_uu, implies_true, true_implies, not_true, not_false_eq_true, false_implies, and_self, Nat.reduceLT, Int32.reduceAdd, Int32.reduceSub, Int32.reduceMul, Int32.reduceLE, Int32.reduceLT, Int32.reduceToNatClampNeg, va_rf_some, Bool.false_eq_true, k_L_digest_0 ca, k_L_digest_3 ca, k_L_digest_4 ca, k_L_digest_5 ca, k_L_digest_6 ca, k_L_digest_7 ca, k_L_digest_9 ca, k_L_digest_12 ca, k_L_digest_15 ca, k_L_digest_16 ca, k_L_digest_17 ca, k_L_digest_18 ca, k_L_digest_19 ca, k_L_digest_22 ca, k_L_digest_23 ca, k_L_digest_24 ca, k_L_digest_27 ca, k_L_digest_28 ca, k_L_digest_31 ca, k_L_digest_32 ca, k_L_digest_33 ca, k_L_digest_36 ca, k_L_digest_37 ca, k_L_digest_38 ca, k_L_digest_39 ca, k_L_digest_42 ca, k_L_digest_45 ca, k_L_digest_46 ca, k_L_digest_47 ca, k_L_digest_48 ca, k_L_digest_50 ca, k_L_digest_53 ca, k_L_digest_56 ca, k_L_digest_57 ca, k_L_digest_58 ca, k_L_digest_59 ca, k_L_digest_60 ca, k_L_digest_62 ca, k_L_digest_63 ca, k_L_digest_64 ca, k_L_digest_66 ca, k_L_digest_67 ca, k_L_digest_70 ca, k_L_digest_71 ca, k_L_digest_72 ca, k_L_digest_73 ca, k_L_digest_76 ca, k_L_digest_79 ca, k_L_digest_80 ca, k_L_digest_81 ca, k_L_digest_82 ca, k_L_digest_84 ca, k_L_digest_87 ca, k_L_digest_90 ca, k_L_digest_91 ca, k_L_digest_92 ca, k_L_digest_93 ca, k_L_digest_94 ca, k_L_digest_96 ca, k_L_digest_97 ca, k_L_digest_98 ca, k_L_digest_100 ca, k_L_digest_101 ca, k_L_digest_104 ca, k_L_digest_105 ca, k_L_digest_106 ca, k_L_digest_107 ca, k_L_digest_110 ca, k_L_digest_113 ca, k_L_digest_114 ca, k_L_digest_115 ca, k_L_digest_116 ca, k_L_digest_118 ca, k_L_digest_121 ca, k_L_digest_124 ca, k_L_digest_125 ca, k_L_digest_126 ca, k_L_digest_127 ca, k_L_digest_128 ca, k_L_digest_130 ca, k_L_digest_131 ca, k_L_digest_132 ca, k_L_digest_133 ca, k_L_digest_134 ca, k_L_digest_136 ca, k_L_digest_137 ca, k_L_digest_138 ca, k_L_digest_139 ca, k_L_digest_140 ca, k_L_digest_143 ca, k_L_digest_144 ca, k_L_digest_145 ca, k_L_digest_146 ca, k_L_digest_149 ca, k_L_digest_152 ca, k_L_digest_153 ca, e1]
      try clear hF hF0 F
      exact k0
    | succ r ih =>
      intro k d hk hd
      have e1 : ((21 : Int32) ≤ nI k) = False := ge_f (N := 21) (by omega) (by decide)
      have k0 := ih (k + 1) (31 * d + (dg3 s k).toInt64) (by omega) (by rw [hd]; rfl)
      unfold dg3 at k0
      refine goN go (stp [81]) 160 _ _ _ _ _ _ (fun F hF hF0 => ?_)
      simp only [hF, hF0, ite_not, i_push, i_iload, i_lload, i_aload, i_istore, i_astore, i_lstore, i_iinc, i_bin, i_dv, i_un, i_lbin, i_lsh, i_i2l, i_l2i, i_lcmp, i_dup, i_dup2, i_pop, i_if, i_icmp, i_goto, swG, i_sw, i_getf, i_puti, i_putz, i_putr, i_ald, i_lald, i_aald, i_ast, i_last, i_aast, i_alen, i_new, i_newi, i_newl, i_newq, i_oinit, i_ret, i_zret, i_lret, i_vret, catS, tk, rpush, isO, i_m1, i_m2, i_acopy, i_callV, i_callS, KRet, lget, lput, lputL, lcl0, isL, lv0, List.map_cons, List.map_nil, List.length_cons, List.length_nil, List.cons_append, List.nil_append, Nat.reduceAdd, Nat.reduceSub, Nat.reduceLeDiff, List.replicate_succ, List.replicate_zero, List.getElem?_cons_succ, List.getElem?_cons_zero, List.set_cons_succ, List.set_cons_zero, true_and, and_true, if_true, if_false, ↓reduceIte, Nat.le_refl, Value.category, va_up_app, eq_self, stp, Nat.reduceBEq, Bool.or_false, Bool.false_or, Bool.true_or, Bool.or_true, or_true, true_or, bx_uu, implies_true, true_implies, not_true, not_false_eq_true, false_implies, and_self, Nat.reduceLT, Int32.reduceAdd, Int32.reduceSub, Int32.reduceMul, Int32.reduceLE, Int32.reduceLT, Int32.reduceToNatClampNeg, va_rf_some, Bool.false_eq_true, k_L_digest_0 ca, k_L_digest_3 ca, k_L_digest_4 ca, k_L_digest_5 ca, k_L_digest_6 ca, k_L_digest_7 ca, k_L_digest_9 ca, k_L_digest_12 ca, k_L_digest_15 ca, k_L_digest_16 ca, k_L_digest_17 ca, k_L_digest_18 ca, k_L_digest_19 ca, k_L_digest_22 ca, k_L_digest_23 ca, k_L_digest_24 ca, k_L_digest_27 ca, k_L_digest_28 ca, k_L_digest_31 ca, k_L_digest_32 ca, k_L_digest_33 ca, k_L_digest_36 ca, k_L_digest_37 ca, k_L_digest_38 ca, k_L_digest_39 ca, k_L_digest_42 ca, k_L_digest_45 ca, k_L_digest_46 ca, k_L_digest_47 ca, k_L_digest_48 ca, k_L_digest_50 ca, k_L_digest_53 ca, k_L_digest_56 ca, k_L_digest_57 ca, k_L_digest_58 ca, k_L_digest_59 ca, k_L_digest_60 ca, k_L_digest_62 ca, k_L_digest_63 ca, k_L_digest_64 ca, k_L_digest_66 ca, k_L_digest_67 ca, k_L_digest_70 ca, k_L_digest_71 ca, k_L_digest_72 ca, k_L_digest_73 ca, k_L_digest_76 ca, k_L_digest_79 ca, k_L_digest_80 ca, k_L_digest_81 ca, k_L_digest_82 ca, k_L_digest_84 ca, k_L_digest_87 ca, k_L_digest_90 ca, k_L_digest_91 ca, k_L_digest_92 ca, k_L_digest_93 ca, k_L_digest_94 ca, k_L_digest_96 ca, k_L_digest_97 ca, k_L_digest_98 ca, k_L_digest_100 ca, k_L_digest_101 ca, k_L_digest_104 ca, k_L_digest_105 ca, k_L_digest_106 ca, k_L_digest_107 ca, k_L_digest_110 ca, k_L_digest_113 ca, k_L_digest_114 ca, k_L_digest_115 ca, k_L_digest_116 ca, k_L_digest_118 ca, k_L_digest_121 ca, k_L_digest_124 ca, k_L_digest_125 ca, k_L_digest_126 ca, k_L_digest_127 ca, k_L_digest_128 ca, k_L_digest_130 ca, k_L_digest_131 ca, k_L_digest_132 ca, k_L_digest_133 ca, k_L_digest_134 ca, k_L_digest_136 ca, k_L_digest_137 ca, k_L_digest_138 ca, k_L_digest_139 ca, k_L_digest_140 ca, k_L_digest_143 ca, k_L_digest_144 ca, k_L_digest_145 ca, k_L_digest_146 ca, k_L_digest_149 ca, k_L_digest_152 ca, k_L_digest_153 ca, e1, c7, H, sq_roomOf, z7, a_1]
      try clear hF hF0 F
      exact k0
  have l2 : ∀ r k d, k + r = 36 → d = dgL (dg2 s) (dgL (dg1 s) 53 16) k → K 0 0 47 [some (.ref (g 0)), some (.long d), none, some (.int (nI k))] [] h := by
    intro r
    induction r with
    | zero =>
      intro k d hk hd
      have ek : k = 36 := by omega
      subst ek
      have e1 : ((36 : Int32) ≤ nI 36) = True := ge_t
      have k0 := l3 21 0 d (by omega) hd
      rw [nI_0] at k0
      refine goN go (stp [81]) 160 _ _ _ _ _ _ (fun F hF hF0 => ?_)
      simp only [hF, hF0, ite_not, i_push, i_iload, i_lload, i_aload, i_istore, i_astore, i_lstore, i_iinc, i_bin, i_dv, i_un, i_lbin, i_lsh, i_i2l, i_l2i, i_lcmp, i_dup, i_dup2, i_pop, i_if, i_icmp, i_goto, swG, i_sw, i_getf, i_puti, i_putz, i_putr, i_ald, i_lald, i_aald, i_ast, i_last, i_aast, i_alen, i_new, i_newi, i_newl, i_newq, i_oinit, i_ret, i_zret, i_lret, i_vret, catS, tk, rpush, isO, i_m1, i_m2, i_acopy, i_callV, i_callS, KRet, lget, lput, lputL, lcl0, isL, lv0, List.map_cons, List.map_nil, List.length_cons, List.length_nil, List.cons_append, List.nil_append, Nat.reduceAdd, Nat.reduceSub, Nat.reduceLeDiff, List.replicate_succ, List.replicate_zero, List.getElem?_cons_succ, List.getElem?_cons_zero, List.set_cons_succ, List.set_cons_zero, true_and, and_true, if_true, if_false, ↓reduceIte, Nat.le_refl, Value.category, va_up_app, eq_self, stp, Nat.reduceBEq, Bool.or_false, Bool.false_or, Bool.true_or, Bool.or_true, or_true, true_or, bx_uu, implies_true, true_implies, not_true, not_false_eq_true, false_implies, and_self, Nat.reduceLT, Int32.reduceAdd, Int32.reduceSub, Int32.reduceMul, Int32.reduceLE, Int32.reduceLT, Int32.reduceToNatClampNeg, va_rf_some, Bool.false_eq_true, k_L_digest_0 ca, k_L_digest_3 ca, k_L_digest_4 ca, k_L_digest_5 ca, k_L_digest_6 ca, k_L_digest_7 ca, k_L_digest_9 ca, k_L_digest_12 ca, k_L_digest_15 ca, k_L_digest_16 ca, k_L_digest_17 ca, k_L_digest_18 ca, k_L_digest_19 ca, k_L_digest_22 ca, k_L_digest_23 ca, k_L_digest_24 ca, k_L_digest_27 ca, k_L_digest_28 ca, k_L_digest_31 ca, k_L_digest_32 ca, k_L_digest_33 ca, k_L_digest_36 ca, k_L_digest_37 ca, k_L_digest_38 ca, k_L_digest_39 ca, k_L_digest_42 ca, k_L_digest_45 ca, k_L_digest_46 ca, k_L_digest_47 ca, k_L_digest_48 ca, k_L_digest_50 ca, k_L_digest_53 ca, k_L_digest_56 ca, k_L_digest_57 ca, k_L_digest_58 ca, k_L_digest_59 ca, k_L_digest_60 ca, k_L_digest_62 ca, k_L_digest_63 ca, k_L_digest_64 ca, k_L_digest_66 ca, k_L_digest_67 ca, k_L_digest_70 ca, k_L_digest_71 ca, k_L_digest_72 ca, k_L_digest_73 ca, k_L_digest_76 ca, k_L_digest_79 ca, k_L_digest_80 ca, k_L_digest_81 ca, k_L_digest_82 ca, k_L_digest_84 ca, k_L_digest_87 ca, k_L_digest_90 ca, k_L_digest_91 ca, k_L_digest_92 ca, k_L_digest_93 ca, k_L_digest_94 ca, k_L_digest_96 ca, k_L_digest_97 ca, k_L_digest_98 ca, k_L_digest_100 ca, k_L_digest_101 ca, k_L_digest_104 ca, k_L_digest_105 ca, k_L_digest_106 ca, k_L_digest_107 ca, k_L_digest_110 ca, k_L_digest_113 ca, k_L_digest_114 ca, k_L_digest_115 ca, k_L_digest_116 ca, k_L_digest_118 ca, k_L_digest_121 ca, k_L_digest_124 ca, k_L_digest_125 ca, k_L_digest_126 ca, k_L_digest_127 ca, k_L_digest_128 ca, k_L_digest_130 ca, k_L_digest_131 ca, k_L_digest_132 ca, k_L_digest_133 ca, k_L_digest_134 ca, k_L_digest_136 ca, k_L_digest_137 ca, k_L_digest_138 ca, k_L_digest_139 ca, k_L_digest_140 ca, k_L_digest_143 ca, k_L_digest_144 ca, k_L_digest_145 ca, k_L_digest_146 ca, k_L_digest_149 ca, k_L_digest_152 ca, k_L_digest_153 ca, e1]
      try clear hF hF0 F
      exact k0
    | succ r ih =>
      intro k d hk hd
      have e1 : ((36 : Int32) ≤ nI k) = False := ge_f (N := 36) (by omega) (by decide)
      have k0 := ih (k + 1) (31 * d + (dg2 s k).toInt64) (by omega) (by rw [hd]; rfl)
      unfold dg2 at k0
      refine goN go (stp [47]) 160 _ _ _ _ _ _ (fun F hF hF0 => ?_)
      simp only [hF, hF0, ite_not, i_push, i_iload, i_lload, i_aload, i_istore, i_astore, i_lstore, i_iinc, i_bin, i_dv, i_un, i_lbin, i_lsh, i_i2l, i_l2i, i_lcmp, i_dup, i_dup2, i_pop, i_if, i_icmp, i_goto, swG, i_sw, i_getf, i_puti, i_putz, i_putr, i_ald, i_lald, i_aald, i_ast, i_last, i_aast, i_alen, i_new, i_newi, i_newl, i_newq, i_oinit, i_ret, i_zret, i_lret, i_vret, catS, tk, rpush, isO, i_m1, i_m2, i_acopy, i_callV, i_callS, KRet, lget, lput, lputL, lcl0, isL, lv0, List.map_cons, List.map_nil, List.length_cons, List.length_nil, List.cons_append, List.nil_append, Nat.reduceAdd, Nat.reduceSub, Nat.reduceLeDiff, List.replicate_succ, List.replicate_zero, List.getElem?_cons_succ, List.getElem?_cons_zero, List.set_cons_succ, List.set_cons_zero, true_and, and_true, if_true, if_false, ↓reduceIte, Nat.le_refl, Value.category, va_up_app, eq_self, stp, Nat.reduceBEq, Bool.or_false, Bool.false_or, Bool.true_or, Bool.or_true, or_true, true_or, bx_uu, implies_true, true_implies, not_true, not_false_eq_true, false_implies, and_self, Nat.reduceLT, Int32.reduceAdd, Int32.reduceSub, Int32.reduceMul, Int32.reduceLE, Int32.reduceLT, Int32.reduceToNatClampNeg, va_rf_some, Bool.false_eq_true, k_L_digest_0 ca, k_L_digest_3 ca, k_L_digest_4 ca, k_L_digest_5 ca, k_L_digest_6 ca, k_L_digest_7 ca, k_L_digest_9 ca, k_L_digest_12 ca, k_L_digest_15 ca, k_L_digest_16 ca, k_L_digest_17 ca, k_L_digest_18 ca, k_L_digest_19 ca, k_L_digest_22 ca, k_L_digest_23 ca, k_L_digest_24 ca, k_L_digest_27 ca, k_L_digest_28 ca, k_L_digest_31 ca, k_L_digest_32 ca, k_L_digest_33 ca, k_L_digest_36 ca, k_L_digest_37 ca, k_L_digest_38 ca, k_L_digest_39 ca, k_L_digest_42 ca, k_L_digest_45 ca, k_L_digest_46 ca, k_L_digest_47 ca, k_L_digest_48 ca, k_L_digest_50 ca, k_L_digest_53 ca, k_L_digest_56 ca, k_L_digest_57 ca, k_L_digest_58 ca, k_L_digest_59 ca, k_L_digest_60 ca, k_L_digest_62 ca, k_L_digest_63 ca, k_L_digest_64 ca, k_L_digest_66 ca, k_L_digest_67 ca, k_L_digest_70 ca, k_L_digest_71 ca, k_L_digest_72 ca, k_L_digest_73 ca, k_L_digest_76 ca, k_L_digest_79 ca, k_L_digest_80 ca, k_L_digest_81 ca, k_L_digest_82 ca, k_L_digest_84 ca, k_L_digest_87 ca, k_L_digest_90 ca, k_L_digest_91 ca, k_L_digest_92 ca, k_L_digest_93 ca, k_L_digest_94 ca, k_L_digest_96 ca, k_L_digest_97 ca, k_L_digest_98 ca, k_L_digest_100 ca, k_L_digest_101 ca, k_L_digest_104 ca, k_L_digest_105 ca, k_L_digest_106 ca, k_L_digest_107 ca, k_L_digest_110 ca, k_L_digest_113 ca, k_L_digest_114 ca, k_L_digest_115 ca, k_L_digest_116 ca, k_L_digest_118 ca, k_L_digest_121 ca, k_L_digest_124 ca, k_L_digest_125 ca, k_L_digest_126 ca, k_L_digest_127 ca, k_L_digest_128 ca, k_L_digest_130 ca, k_L_digest_131 ca, k_L_digest_132 ca, k_L_digest_133 ca, k_L_digest_134 ca, k_L_digest_136 ca, k_L_digest_137 ca, k_L_digest_138 ca, k_L_digest_139 ca, k_L_digest_140 ca, k_L_digest_143 ca, k_L_digest_144 ca, k_L_digest_145 ca, k_L_digest_146 ca, k_L_digest_149 ca, k_L_digest_152 ca, k_L_digest_153 ca, e1, c7, H, sq_stripOf, z12, a_1]
      try clear hF hF0 F
      exact k0
  have l1 : ∀ r k d, k + r = 16 → d = dgL (dg1 s) 53 k → K 0 0 6 [some (.ref (g 0)), some (.long d), none, some (.int (nI k))] [] h := by
    intro r
    induction r with
    | zero =>
      intro k d hk hd
      have ek : k = 16 := by omega
      subst ek
      have e1 : ((16 : Int32) ≤ nI 16) = True := ge_t
      have k0 := l2 36 0 d (by omega) hd
      rw [nI_0] at k0
      refine goN go (stp [47]) 160 _ _ _ _ _ _ (fun F hF hF0 => ?_)
      simp only [hF, hF0, ite_not, i_push, i_iload, i_lload, i_aload, i_istore, i_astore, i_lstore, i_iinc, i_bin, i_dv, i_un, i_lbin, i_lsh, i_i2l, i_l2i, i_lcmp, i_dup, i_dup2, i_pop, i_if, i_icmp, i_goto, swG, i_sw, i_getf, i_puti, i_putz, i_putr, i_ald, i_lald, i_aald, i_ast, i_last, i_aast, i_alen, i_new, i_newi, i_newl, i_newq, i_oinit, i_ret, i_zret, i_lret, i_vret, catS, tk, rpush, isO, i_m1, i_m2, i_acopy, i_callV, i_callS, KRet, lget, lput, lputL, lcl0, isL, lv0, List.map_cons, List.map_nil, List.length_cons, List.length_nil, List.cons_append, List.nil_append, Nat.reduceAdd, Nat.reduceSub, Nat.reduceLeDiff, List.replicate_succ, List.replicate_zero, List.getElem?_cons_succ, List.getElem?_cons_zero, List.set_cons_succ, List.set_cons_zero, true_and, and_true, if_true, if_false, ↓reduceIte, Nat.le_refl, Value.category, va_up_app, eq_self, stp, Nat.reduceBEq, Bool.or_false, Bool.false_or, Bool.true_or, Bool.or_true, or_true, true_or, bx_uu, implies_true, true_implies, not_true, not_false_eq_true, false_implies, and_self, Nat.reduceLT, Int32.reduceAdd, Int32.reduceSub, Int32.reduceMul, Int32.reduceLE, Int32.reduceLT, Int32.reduceToNatClampNeg, va_rf_some, Bool.false_eq_true, k_L_digest_0 ca, k_L_digest_3 ca, k_L_digest_4 ca, k_L_digest_5 ca, k_L_digest_6 ca, k_L_digest_7 ca, k_L_digest_9 ca, k_L_digest_12 ca, k_L_digest_15 ca, k_L_digest_16 ca, k_L_digest_17 ca, k_L_digest_18 ca, k_L_digest_19 ca, k_L_digest_22 ca, k_L_digest_23 ca, k_L_digest_24 ca, k_L_digest_27 ca, k_L_digest_28 ca, k_L_digest_31 ca, k_L_digest_32 ca, k_L_digest_33 ca, k_L_digest_36 ca, k_L_digest_37 ca, k_L_digest_38 ca, k_L_digest_39 ca, k_L_digest_42 ca, k_L_digest_45 ca, k_L_digest_46 ca, k_L_digest_47 ca, k_L_digest_48 ca, k_L_digest_50 ca, k_L_digest_53 ca, k_L_digest_56 ca, k_L_digest_57 ca, k_L_digest_58 ca, k_L_digest_59 ca, k_L_digest_60 ca, k_L_digest_62 ca, k_L_digest_63 ca, k_L_digest_64 ca, k_L_digest_66 ca, k_L_digest_67 ca, k_L_digest_70 ca, k_L_digest_71 ca, k_L_digest_72 ca, k_L_digest_73 ca, k_L_digest_76 ca, k_L_digest_79 ca, k_L_digest_80 ca, k_L_digest_81 ca, k_L_digest_82 ca, k_L_digest_84 ca, k_L_digest_87 ca, k_L_digest_90 ca, k_L_digest_91 ca, k_L_digest_92 ca, k_L_digest_93 ca, k_L_digest_94 ca, k_L_digest_96 ca, k_L_digest_97 ca, k_L_digest_98 ca, k_L_digest_100 ca, k_L_digest_101 ca, k_L_digest_104 ca, k_L_digest_105 ca, k_L_digest_106 ca, k_L_digest_107 ca, k_L_digest_110 ca, k_L_digest_113 ca, k_L_digest_114 ca, k_L_digest_115 ca, k_L_digest_116 ca, k_L_digest_118 ca, k_L_digest_121 ca, k_L_digest_124 ca, k_L_digest_125 ca, k_L_digest_126 ca, k_L_digest_127 ca, k_L_digest_128 ca, k_L_digest_130 ca, k_L_digest_131 ca, k_L_digest_132 ca, k_L_digest_133 ca, k_L_digest_134 ca, k_L_digest_136 ca, k_L_digest_137 ca, k_L_digest_138 ca, k_L_digest_139 ca, k_L_digest_140 ca, k_L_digest_143 ca, k_L_digest_144 ca, k_L_digest_145 ca, k_L_digest_146 ca, k_L_digest_149 ca, k_L_digest_152 ca, k_L_digest_153 ca, e1]
      try clear hF hF0 F
      exact k0
    | succ r ih =>
      intro k d hk hd
      have e1 : ((16 : Int32) ≤ nI k) = False := ge_f (N := 16) (by omega) (by decide)
      have k0 := ih (k + 1) (31 * d + (dg1 s k).toInt64) (by omega) (by rw [hd]; rfl)
      have e3 : (nI k = 3) = (k = 3) := nIe (b := 3) (by omega) (by decide)
      have e4 : (nI k = 4) = (k = 4) := nIe (b := 4) (by omega) (by decide)
      unfold dg1 at k0
      by_cases q3 : k = 3
      · rw [if_pos q3] at k0
        refine goN go (stp [6]) 160 _ _ _ _ _ _ (fun F hF hF0 => ?_)
        simp only [hF, hF0, ite_not, i_push, i_iload, i_lload, i_aload, i_istore, i_astore, i_lstore, i_iinc, i_bin, i_dv, i_un, i_lbin, i_lsh, i_i2l, i_l2i, i_lcmp, i_dup, i_dup2, i_pop, i_if, i_icmp, i_goto, swG, i_sw, i_getf, i_puti, i_putz, i_putr, i_ald, i_lald, i_aald, i_ast, i_last, i_aast, i_alen, i_new, i_newi, i_newl, i_newq, i_oinit, i_ret, i_zret, i_lret, i_vret, catS, tk, rpush, isO, i_m1, i_m2, i_acopy, i_callV, i_callS, KRet, lget, lput, lputL, lcl0, isL, lv0, List.map_cons, List.map_nil, List.length_cons, List.length_nil, List.cons_append, List.nil_append, Nat.reduceAdd, Nat.reduceSub, Nat.reduceLeDiff, List.replicate_succ, List.replicate_zero, List.getElem?_cons_succ, List.getElem?_cons_zero, List.set_cons_succ, List.set_cons_zero, true_and, and_true, if_true, if_false, ↓reduceIte, Nat.le_refl, Value.category, va_up_app, eq_self, stp, Nat.reduceBEq, Bool.or_false, Bool.false_or, Bool.true_or, Bool.or_true, or_true, true_or, bx_uu, implies_true, true_implies, not_true, not_false_eq_true, false_implies, and_self, Nat.reduceLT, Int32.reduceAdd, Int32.reduceSub, Int32.reduceMul, Int32.reduceLE, Int32.reduceLT, Int32.reduceToNatClampNeg, va_rf_some, Bool.false_eq_true, k_L_digest_0 ca, k_L_digest_3 ca, k_L_digest_4 ca, k_L_digest_5 ca, k_L_digest_6 ca, k_L_digest_7 ca, k_L_digest_9 ca, k_L_digest_12 ca, k_L_digest_15 ca, k_L_digest_16 ca, k_L_digest_17 ca, k_L_digest_18 ca, k_L_digest_19 ca, k_L_digest_22 ca, k_L_digest_23 ca, k_L_digest_24 ca, k_L_digest_27 ca, k_L_digest_28 ca, k_L_digest_31 ca, k_L_digest_32 ca, k_L_digest_33 ca, k_L_digest_36 ca, k_L_digest_37 ca, k_L_digest_38 ca, k_L_digest_39 ca, k_L_digest_42 ca, k_L_digest_45 ca, k_L_digest_46 ca, k_L_digest_47 ca, k_L_digest_48 ca, k_L_digest_50 ca, k_L_digest_53 ca, k_L_digest_56 ca, k_L_digest_57 ca, k_L_digest_58 ca, k_L_digest_59 ca, k_L_digest_60 ca, k_L_digest_62 ca, k_L_digest_63 ca, k_L_digest_64 ca, k_L_digest_66 ca, k_L_digest_67 ca, k_L_digest_70 ca, k_L_digest_71 ca, k_L_digest_72 ca, k_L_digest_73 ca, k_L_digest_76 ca, k_L_digest_79 ca, k_L_digest_80 ca, k_L_digest_81 ca, k_L_digest_82 ca, k_L_digest_84 ca, k_L_digest_87 ca, k_L_digest_90 ca, k_L_digest_91 ca, k_L_digest_92 ca, k_L_digest_93 ca, k_L_digest_94 ca, k_L_digest_96 ca, k_L_digest_97 ca, k_L_digest_98 ca, k_L_digest_100 ca, k_L_digest_101 ca, k_L_digest_104 ca, k_L_digest_105 ca, k_L_digest_106 ca, k_L_digest_107 ca, k_L_digest_110 ca, k_L_digest_113 ca, k_L_digest_114 ca, k_L_digest_115 ca, k_L_digest_116 ca, k_L_digest_118 ca, k_L_digest_121 ca, k_L_digest_124 ca, k_L_digest_125 ca, k_L_digest_126 ca, k_L_digest_127 ca, k_L_digest_128 ca, k_L_digest_130 ca, k_L_digest_131 ca, k_L_digest_132 ca, k_L_digest_133 ca, k_L_digest_134 ca, k_L_digest_136 ca, k_L_digest_137 ca, k_L_digest_138 ca, k_L_digest_139 ca, k_L_digest_140 ca, k_L_digest_143 ca, k_L_digest_144 ca, k_L_digest_145 ca, k_L_digest_146 ca, k_L_digest_149 ca, k_L_digest_152 ca, k_L_digest_153 ca, e1, e3, q3, a_1]
        try clear hF hF0 F
        rw [q3] at k0
        exact k0
      · rw [if_neg q3] at k0
        by_cases q4 : k = 4
        · rw [if_pos q4] at k0
          refine goN go (stp [6]) 160 _ _ _ _ _ _ (fun F hF hF0 => ?_)
          simp only [hF, hF0, ite_not, i_push, i_iload, i_lload, i_aload, i_istore, i_astore, i_lstore, i_iinc, i_bin, i_dv, i_un, i_lbin, i_lsh, i_i2l, i_l2i, i_lcmp, i_dup, i_dup2, i_pop, i_if, i_icmp, i_goto, swG, i_sw, i_getf, i_puti, i_putz, i_putr, i_ald, i_lald, i_aald, i_ast, i_last, i_aast, i_alen, i_new, i_newi, i_newl, i_newq, i_oinit, i_ret, i_zret, i_lret, i_vret, catS, tk, rpush, isO, i_m1, i_m2, i_acopy, i_callV, i_callS, KRet, lget, lput, lputL, lcl0, isL, lv0, List.map_cons, List.map_nil, List.length_cons, List.length_nil, List.cons_append, List.nil_append, Nat.reduceAdd, Nat.reduceSub, Nat.reduceLeDiff, List.replicate_succ, List.replicate_zero, List.getElem?_cons_succ, List.getElem?_cons_zero, List.set_cons_succ, List.set_cons_zero, true_and, and_true, if_true, if_false, ↓reduceIte, Nat.le_refl, Value.category, va_up_app, eq_self, stp, Nat.reduceBEq, Bool.or_false, Bool.false_or, Bool.true_or, Bool.or_true, or_true, true_or, bx_uu, implies_true, true_implies, not_true, not_false_eq_true, false_implies, and_self, Nat.reduceLT, Int32.reduceAdd, Int32.reduceSub, Int32.reduceMul, Int32.reduceLE, Int32.reduceLT, Int32.reduceToNatClampNeg, va_rf_some, Bool.false_eq_true, k_L_digest_0 ca, k_L_digest_3 ca, k_L_digest_4 ca, k_L_digest_5 ca, k_L_digest_6 ca, k_L_digest_7 ca, k_L_digest_9 ca, k_L_digest_12 ca, k_L_digest_15 ca, k_L_digest_16 ca, k_L_digest_17 ca, k_L_digest_18 ca, k_L_digest_19 ca, k_L_digest_22 ca, k_L_digest_23 ca, k_L_digest_24 ca, k_L_digest_27 ca, k_L_digest_28 ca, k_L_digest_31 ca, k_L_digest_32 ca, k_L_digest_33 ca, k_L_digest_36 ca, k_L_digest_37 ca, k_L_digest_38 ca, k_L_digest_39 ca, k_L_digest_42 ca, k_L_digest_45 ca, k_L_digest_46 ca, k_L_digest_47 ca, k_L_digest_48 ca, k_L_digest_50 ca, k_L_digest_53 ca, k_L_digest_56 ca, k_L_digest_57 ca, k_L_digest_58 ca, k_L_digest_59 ca, k_L_digest_60 ca, k_L_digest_62 ca, k_L_digest_63 ca, k_L_digest_64 ca, k_L_digest_66 ca, k_L_digest_67 ca, k_L_digest_70 ca, k_L_digest_71 ca, k_L_digest_72 ca, k_L_digest_73 ca, k_L_digest_76 ca, k_L_digest_79 ca, k_L_digest_80 ca, k_L_digest_81 ca, k_L_digest_82 ca, k_L_digest_84 ca, k_L_digest_87 ca, k_L_digest_90 ca, k_L_digest_91 ca, k_L_digest_92 ca, k_L_digest_93 ca, k_L_digest_94 ca, k_L_digest_96 ca, k_L_digest_97 ca, k_L_digest_98 ca, k_L_digest_100 ca, k_L_digest_101 ca, k_L_digest_104 ca, k_L_digest_105 ca, k_L_digest_106 ca, k_L_digest_107 ca, k_L_digest_110 ca, k_L_digest_113 ca, k_L_digest_114 ca, k_L_digest_115 ca, k_L_digest_116 ca, k_L_digest_118 ca, k_L_digest_121 ca, k_L_digest_124 ca, k_L_digest_125 ca, k_L_digest_126 ca, k_L_digest_127 ca, k_L_digest_128 ca, k_L_digest_130 ca, k_L_digest_131 ca, k_L_digest_132 ca, k_L_digest_133 ca, k_L_digest_134 ca, k_L_digest_136 ca, k_L_digest_137 ca, k_L_digest_138 ca, k_L_digest_139 ca, k_L_digest_140 ca, k_L_digest_143 ca, k_L_digest_144 ca, k_L_digest_145 ca, k_L_digest_146 ca, k_L_digest_149 ca, k_L_digest_152 ca, k_L_digest_153 ca, e1, e3, e4, q3, q4, a_1]
          try clear hF hF0 F
          rw [q4] at k0
          exact k0
        · rw [if_neg q4, ctd (t := ss) (m := n) (by rw [e3]; exact q3) (by rw [e4]; exact q4)] at k0
          refine goN go (stp [6]) 160 _ _ _ _ _ _ (fun F hF hF0 => ?_)
          simp only [hF, hF0, ite_not, i_push, i_iload, i_lload, i_aload, i_istore, i_astore, i_lstore, i_iinc, i_bin, i_dv, i_un, i_lbin, i_lsh, i_i2l, i_l2i, i_lcmp, i_dup, i_dup2, i_pop, i_if, i_icmp, i_goto, swG, i_sw, i_getf, i_puti, i_putz, i_putr, i_ald, i_lald, i_aald, i_ast, i_last, i_aast, i_alen, i_new, i_newi, i_newl, i_newq, i_oinit, i_ret, i_zret, i_lret, i_vret, catS, tk, rpush, isO, i_m1, i_m2, i_acopy, i_callV, i_callS, KRet, lget, lput, lputL, lcl0, isL, lv0, List.map_cons, List.map_nil, List.length_cons, List.length_nil, List.cons_append, List.nil_append, Nat.reduceAdd, Nat.reduceSub, Nat.reduceLeDiff, List.replicate_succ, List.replicate_zero, List.getElem?_cons_succ, List.getElem?_cons_zero, List.set_cons_succ, List.set_cons_zero, true_and, and_true, if_true, if_false, ↓reduceIte, Nat.le_refl, Value.category, va_up_app, eq_self, stp, Nat.reduceBEq, Bool.or_false, Bool.false_or, Bool.true_or, Bool.or_true, or_true, true_or, bx_uu, implies_true, true_implies, not_true, not_false_eq_true, false_implies, and_self, Nat.reduceLT, Int32.reduceAdd, Int32.reduceSub, Int32.reduceMul, Int32.reduceLE, Int32.reduceLT, Int32.reduceToNatClampNeg, va_rf_some, Bool.false_eq_true, k_L_digest_0 ca, k_L_digest_3 ca, k_L_digest_4 ca, k_L_digest_5 ca, k_L_digest_6 ca, k_L_digest_7 ca, k_L_digest_9 ca, k_L_digest_12 ca, k_L_digest_15 ca, k_L_digest_16 ca, k_L_digest_17 ca, k_L_digest_18 ca, k_L_digest_19 ca, k_L_digest_22 ca, k_L_digest_23 ca, k_L_digest_24 ca, k_L_digest_27 ca, k_L_digest_28 ca, k_L_digest_31 ca, k_L_digest_32 ca, k_L_digest_33 ca, k_L_digest_36 ca, k_L_digest_37 ca, k_L_digest_38 ca, k_L_digest_39 ca, k_L_digest_42 ca, k_L_digest_45 ca, k_L_digest_46 ca, k_L_digest_47 ca, k_L_digest_48 ca, k_L_digest_50 ca, k_L_digest_53 ca, k_L_digest_56 ca, k_L_digest_57 ca, k_L_digest_58 ca, k_L_digest_59 ca, k_L_digest_60 ca, k_L_digest_62 ca, k_L_digest_63 ca, k_L_digest_64 ca, k_L_digest_66 ca, k_L_digest_67 ca, k_L_digest_70 ca, k_L_digest_71 ca, k_L_digest_72 ca, k_L_digest_73 ca, k_L_digest_76 ca, k_L_digest_79 ca, k_L_digest_80 ca, k_L_digest_81 ca, k_L_digest_82 ca, k_L_digest_84 ca, k_L_digest_87 ca, k_L_digest_90 ca, k_L_digest_91 ca, k_L_digest_92 ca, k_L_digest_93 ca, k_L_digest_94 ca, k_L_digest_96 ca, k_L_digest_97 ca, k_L_digest_98 ca, k_L_digest_100 ca, k_L_digest_101 ca, k_L_digest_104 ca, k_L_digest_105 ca, k_L_digest_106 ca, k_L_digest_107 ca, k_L_digest_110 ca, k_L_digest_113 ca, k_L_digest_114 ca, k_L_digest_115 ca, k_L_digest_116 ca, k_L_digest_118 ca, k_L_digest_121 ca, k_L_digest_124 ca, k_L_digest_125 ca, k_L_digest_126 ca, k_L_digest_127 ca, k_L_digest_128 ca, k_L_digest_130 ca, k_L_digest_131 ca, k_L_digest_132 ca, k_L_digest_133 ca, k_L_digest_134 ca, k_L_digest_136 ca, k_L_digest_137 ca, k_L_digest_138 ca, k_L_digest_139 ca, k_L_digest_140 ca, k_L_digest_143 ca, k_L_digest_144 ca, k_L_digest_145 ca, k_L_digest_146 ca, k_L_digest_149 ca, k_L_digest_152 ca, k_L_digest_153 ca, e1, e3, e4, q3, q4, c7, H, sq_count, a_1]
          try clear hF hF0 F
          exact k0
  have k0 := l1 16 0 53 (by omega) rfl
  rw [nI_0] at k0
  refine goN go (stp [6]) 160 _ _ _ _ _ _ (fun F hF hF0 => ?_)
  simp only [hF, hF0, ite_not, i_push, i_iload, i_lload, i_aload, i_istore, i_astore, i_lstore, i_iinc, i_bin, i_dv, i_un, i_lbin, i_lsh, i_i2l, i_l2i, i_lcmp, i_dup, i_dup2, i_pop, i_if, i_icmp, i_goto, swG, i_sw, i_getf, i_puti, i_putz, i_putr, i_ald, i_lald, i_aald, i_ast, i_last, i_aast, i_alen, i_new, i_newi, i_newl, i_newq, i_oinit, i_ret, i_zret, i_lret, i_vret, catS, tk, rpush, isO, i_m1, i_m2, i_acopy, i_callV, i_callS, KRet, lget, lput, lputL, lcl0, isL, lv0, List.map_cons, List.map_nil, List.length_cons, List.length_nil, List.cons_append, List.nil_append, Nat.reduceAdd, Nat.reduceSub, Nat.reduceLeDiff, List.replicate_succ, List.replicate_zero, List.getElem?_cons_succ, List.getElem?_cons_zero, List.set_cons_succ, List.set_cons_zero, true_and, and_true, if_true, if_false, ↓reduceIte, Nat.le_refl, Value.category, va_up_app, eq_self, stp, Nat.reduceBEq, Bool.or_false, Bool.false_or, Bool.true_or, Bool.or_true, or_true, true_or, bx_uu, implies_true, true_implies, not_true, not_false_eq_true, false_implies, and_self, Nat.reduceLT, Int32.reduceAdd, Int32.reduceSub, Int32.reduceMul, Int32.reduceLE, Int32.reduceLT, Int32.reduceToNatClampNeg, va_rf_some, Bool.false_eq_true, k_L_digest_0 ca, k_L_digest_3 ca, k_L_digest_4 ca, k_L_digest_5 ca, k_L_digest_6 ca, k_L_digest_7 ca, k_L_digest_9 ca, k_L_digest_12 ca, k_L_digest_15 ca, k_L_digest_16 ca, k_L_digest_17 ca, k_L_digest_18 ca, k_L_digest_19 ca, k_L_digest_22 ca, k_L_digest_23 ca, k_L_digest_24 ca, k_L_digest_27 ca, k_L_digest_28 ca, k_L_digest_31 ca, k_L_digest_32 ca, k_L_digest_33 ca, k_L_digest_36 ca, k_L_digest_37 ca, k_L_digest_38 ca, k_L_digest_39 ca, k_L_digest_42 ca, k_L_digest_45 ca, k_L_digest_46 ca, k_L_digest_47 ca, k_L_digest_48 ca, k_L_digest_50 ca, k_L_digest_53 ca, k_L_digest_56 ca, k_L_digest_57 ca, k_L_digest_58 ca, k_L_digest_59 ca, k_L_digest_60 ca, k_L_digest_62 ca, k_L_digest_63 ca, k_L_digest_64 ca, k_L_digest_66 ca, k_L_digest_67 ca, k_L_digest_70 ca, k_L_digest_71 ca, k_L_digest_72 ca, k_L_digest_73 ca, k_L_digest_76 ca, k_L_digest_79 ca, k_L_digest_80 ca, k_L_digest_81 ca, k_L_digest_82 ca, k_L_digest_84 ca, k_L_digest_87 ca, k_L_digest_90 ca, k_L_digest_91 ca, k_L_digest_92 ca, k_L_digest_93 ca, k_L_digest_94 ca, k_L_digest_96 ca, k_L_digest_97 ca, k_L_digest_98 ca, k_L_digest_100 ca, k_L_digest_101 ca, k_L_digest_104 ca, k_L_digest_105 ca, k_L_digest_106 ca, k_L_digest_107 ca, k_L_digest_110 ca, k_L_digest_113 ca, k_L_digest_114 ca, k_L_digest_115 ca, k_L_digest_116 ca, k_L_digest_118 ca, k_L_digest_121 ca, k_L_digest_124 ca, k_L_digest_125 ca, k_L_digest_126 ca, k_L_digest_127 ca, k_L_digest_128 ca, k_L_digest_130 ca, k_L_digest_131 ca, k_L_digest_132 ca, k_L_digest_133 ca, k_L_digest_134 ca, k_L_digest_136 ca, k_L_digest_137 ca, k_L_digest_138 ca, k_L_digest_139 ca, k_L_digest_140 ca, k_L_digest_143 ca, k_L_digest_144 ca, k_L_digest_145 ca, k_L_digest_146 ca, k_L_digest_149 ca, k_L_digest_152 ca, k_L_digest_153 ca]
  try clear hF hF0 F
  exact k0
