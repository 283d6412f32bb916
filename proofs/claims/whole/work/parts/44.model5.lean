/-! SnapStacksModel: warmer, laysBends -/
theorem clamp_eq (v : Int32) : clampF v = if -500 ≤ v then (if v ≤ 1500 then v else 1500) else -500 := by
  have e1 : (-500 : Int32).toInt = -500 := by decide
  have e2 : (1500 : Int32).toInt = 1500 := by decide
  unfold clampF maxF minF
  by_cases h2 : v ≤ 1500
  · have h3 : ¬ 1500 < v := fun z => by rw [Int32.lt_iff_toInt_lt] at z; rw [Int32.le_iff_toInt_le] at h2; omega
    rw [if_neg h3]
    by_cases h1 : -500 ≤ v
    · rw [if_pos h1, if_pos h2]
      by_cases h4 : -500 < v
      · rw [if_pos h4]
      · rw [if_neg h4]
        refine Int32.toInt_inj.mp ?_
        rw [Int32.lt_iff_toInt_lt] at h4
        rw [Int32.le_iff_toInt_le] at h1
        omega
    · rw [if_neg h1, if_neg (fun z => h1 (by rw [Int32.lt_iff_toInt_lt] at z; rw [Int32.le_iff_toInt_le]; omega))]
  · have h3 : 1500 < v := by rw [Int32.lt_iff_toInt_lt]; rw [Int32.le_iff_toInt_le] at h2; omega
    have h1 : -500 ≤ v := by rw [Int32.le_iff_toInt_le]; rw [Int32.lt_iff_toInt_lt] at h3; omega
    rw [if_pos h3, if_pos (by decide), if_pos h1, if_neg h2]
theorem pclamp {post : Option Value → PH → Prop} {h : PH} {v w : Int32} {d1 : Decidable (-500 ≤ v)} {d2 : Decidable (v ≤ 1500)} (e : v = w) (hp : post (some (.int (clampF w))) h) : @ite Prop (-500 ≤ v) d1 (@ite Prop (v ≤ 1500) d2 (post (some (.int v)) h) (post (some (.int 1500)) h)) (post (some (.int (-500))) h) := by
  subst e
  rw [clamp_eq] at hp
  refine ifp (fun z => ?_) (fun z => ?_)
  · rw [if_pos z] at hp
    refine ifp (fun z2 => ?_) (fun z2 => ?_)
    · rw [if_pos z2] at hp; exact hp
    · rw [if_neg z2] at hp; exact hp
  · rw [if_neg z] at hp; exact hp
theorem asc {a b c : Int32} : a + b - c = a - c + b := by rw [Int32.sub_eq_add_neg, Int32.sub_eq_add_neg, Int32.add_assoc, Int32.add_comm b, ← Int32.add_assoc]
def OkR (s : Nat → Int32) (k : Nat) : Prop := ¬ s (108 + 7 * k) = 0 ∧ (s (14 + 32 * k) = 0 ∨ s (14 + 32 * k) = 1) ∧ (s (109 + 7 * k) = 0 ∨ s (109 + 7 * k) = 1) ∧ (s (109 + 7 * ((k + 2) % 3)) = 0 ∨ s (109 + 7 * ((k + 2) % 3)) = 1)
def sp_X8_warmer (ca : Nat → ClassId) : SPEC := fun av h post => ∃ m a0 s k, k < 3 ∧ av = [.ref m, .int (nI k)] ∧ MS ca h m a0 s ∧ OkR s k ∧ post (some (.int (wtc s k))) h
theorem zero1 : ((0 : Int32) = 1) = False := eq_false (by decide)
def k_X8_warmer (ca : Nat → ClassId) : Nat → IT := fun pc => lk pc [(0, i_aload 0 1),
  (1, i_getf 8 0 4),
  (4, i_iload 1 5),
  (5, i_callS 1 0 0 0 0 (sp_X8_roomAt ca) 8),
  (8, i_ald (ca 0) 9),
  (9, i_istore 2 10),
  (10, i_iload 1 11),
  (11, i_push (.int 1) 12),
  (12, i_bin (fun x y => x + y) 13),
  (13, i_push (.int 3) 14),
  (14, i_dv (fun x y => x - x / y * y) 15),
  (15, i_istore 3 16),
  (16, i_iload 1 17),
  (17, i_push (.int 2) 18),
  (18, i_bin (fun x y => x + y) 19),
  (19, i_push (.int 3) 20),
  (20, i_dv (fun x y => x - x / y * y) 21),
  (21, i_istore 4 23),
  (23, i_iload 2 24),
  (24, i_aload 0 25),
  (25, i_iload 1 26),
  (26, i_callV 8 1 0 0 0 0 (sp_X8_isClosed ca) 29),
  (29, i_if (fun x => x = 0) 46 32),
  (32, i_aload 0 33),
  (33, i_getf 8 0 36),
  (36, i_iload 1 37),
  (37, i_callS 1 0 0 0 0 (sp_X8_roomAt ca) 40),
  (40, i_push (.int 1) 41),
  (41, i_bin (fun x y => x + y) 42),
  (42, i_ald (ca 0) 43),
  (43, i_goto 47),
  (46, i_push (.int 0) 47),
  (47, i_bin (fun x y => x + y) 48),
  (48, i_istore 5 50),
  (50, i_iload 5 52),
  (52, i_iload 2 53),
  (53, i_aload 0 54),
  (54, i_getf 8 0 57),
  (57, i_push (.int 8) 59),
  (59, i_ald (ca 0) 60),
  (60, i_bin (fun x y => x - y) 61),
  (61, i_aload 0 62),
  (62, i_getf 8 0 65),
  (65, i_iload 1 66),
  (66, i_callS 1 0 0 0 0 (sp_X8_roomAt ca) 69),
  (69, i_push (.int 2) 70),
  (70, i_bin (fun x y => x + y) 71),
  (71, i_ald (ca 0) 72),
  (72, i_dv (fun x y => x / y) 73),
  (73, i_bin (fun x y => x - y) 74),
  (74, i_istore 5 76),
  (76, i_iload 5 78),
  (78, i_aload 0 79),
  (79, i_iload 1 80),
  (80, i_callV 8 1 0 0 0 0 (sp_X8_isOpen ca) 83),
  (83, i_if (fun x => x = 0) 103 86),
  (86, i_iload 2 87),
  (87, i_aload 0 88),
  (88, i_getf 8 0 91),
  (91, i_iload 3 92),
  (92, i_callS 1 0 0 0 0 (sp_X8_roomAt ca) 95),
  (95, i_ald (ca 0) 96),
  (96, i_bin (fun x y => x - y) 97),
  (97, i_push (.int 10) 99),
  (99, i_dv (fun x y => x / y) 100),
  (100, i_goto 104),
  (103, i_push (.int 0) 104),
  (104, i_bin (fun x y => x - y) 105),
  (105, i_istore 5 107),
  (107, i_iload 5 109),
  (109, i_aload 0 110),
  (110, i_iload 4 112),
  (112, i_callV 8 1 0 0 0 0 (sp_X8_isOpen ca) 115),
  (115, i_if (fun x => x = 0) 136 118),
  (118, i_iload 2 119),
  (119, i_aload 0 120),
  (120, i_getf 8 0 123),
  (123, i_iload 4 125),
  (125, i_callS 1 0 0 0 0 (sp_X8_roomAt ca) 128),
  (128, i_ald (ca 0) 129),
  (129, i_bin (fun x y => x - y) 130),
  (130, i_push (.int 10) 132),
  (132, i_dv (fun x y => x / y) 133),
  (133, i_goto 137),
  (136, i_push (.int 0) 137),
  (137, i_bin (fun x y => x - y) 138),
  (138, i_istore 5 140),
  (140, i_iload 5 142),
  (142, i_push (.int (-500)) 145),
  (145, i_icmp (fun x y => y ≤ x) 154 148),
  (148, i_push (.int (-500)) 151),
  (151, i_goto 170),
  (154, i_iload 5 156),
  (156, i_push (.int 1500) 159),
  (159, i_icmp (fun x y => x ≤ y) 168 162),
  (162, i_push (.int 1500) 165),
  (165, i_goto 170),
  (168, i_iload 5 170),
  (170, i_ret)]
set_option maxRecDepth 20000 in
theorem t_X8_warmer : Tb k_X8_warmer yX8_warmer cX8_warmer 6 (some .int) 3 0 0 := by
  intro l D ca A p e s m args below meth c post X
  unfold k_X8_warmer
  refine snd_cons (snd_aload_n X dX8_warmer_0 rfl) ?_
  refine snd_cons (snd_getf X Fk8 0 (by decide) w_647 dX8_warmer_1) ?_
  refine snd_cons (snd_iload_n X dX8_warmer_4 rfl) ?_
  refine snd_cons (snd_callS X (ok_X8_roomAt l D ca) rfl rfl w_644 w_645 w_9 w_646 (by decide) (by decide) dX8_warmer_5) ?_
  refine snd_cons (snd_iaload X dX8_warmer_8) ?_
  refine snd_cons (snd_istore_n X dX8_warmer_9 rfl (by decide)) ?_
  refine snd_cons (snd_iload_n X dX8_warmer_10 rfl) ?_
  refine snd_cons (snd_iconst X dX8_warmer_11 (by decide)) ?_
  refine snd_cons (snd_iadd X dX8_warmer_12) ?_
  refine snd_cons (snd_iconst X dX8_warmer_13 (by decide)) ?_
  refine snd_cons (snd_irem X dX8_warmer_14) ?_
  refine snd_cons (snd_istore_n X dX8_warmer_15 rfl (by decide)) ?_
  refine snd_cons (snd_iload_n X dX8_warmer_16 rfl) ?_
  refine snd_cons (snd_iconst X dX8_warmer_17 (by decide)) ?_
  refine snd_cons (snd_iadd X dX8_warmer_18) ?_
  refine snd_cons (snd_iconst X dX8_warmer_19 (by decide)) ?_
  refine snd_cons (snd_irem X dX8_warmer_20) ?_
  refine snd_cons (snd_istore X dX8_warmer_21 (by decide)) ?_
  refine snd_cons (snd_iload_n X dX8_warmer_23 rfl) ?_
  refine snd_cons (snd_aload_n X dX8_warmer_24 rfl) ?_
  refine snd_cons (snd_iload_n X dX8_warmer_25 rfl) ?_
  refine snd_cons (snd_callV X Fk8 (ok_X8_isClosed l D ca) rfl rfl w_778 w_780 wp_28 w_9 w_781 (by decide) (by decide) dX8_warmer_26) ?_
  refine snd_cons (snd_if_eq X dX8_warmer_29 (by decide)) ?_
  refine snd_cons (snd_aload_n X dX8_warmer_32 rfl) ?_
  refine snd_cons (snd_getf X Fk8 0 (by decide) w_647 dX8_warmer_33) ?_
  refine snd_cons (snd_iload_n X dX8_warmer_36 rfl) ?_
  refine snd_cons (snd_callS X (ok_X8_roomAt l D ca) rfl rfl w_644 w_645 w_9 w_646 (by decide) (by decide) dX8_warmer_37) ?_
  refine snd_cons (snd_iconst X dX8_warmer_40 (by decide)) ?_
  refine snd_cons (snd_iadd X dX8_warmer_41) ?_
  refine snd_cons (snd_iaload X dX8_warmer_42) ?_
  refine snd_cons (snd_goto X dX8_warmer_43 (by decide)) ?_
  refine snd_cons (snd_iconst X dX8_warmer_46 (by decide)) ?_
  refine snd_cons (snd_iadd X dX8_warmer_47) ?_
  refine snd_cons (snd_istore X dX8_warmer_48 (by decide)) ?_
  refine snd_cons (snd_iload X dX8_warmer_50) ?_
  refine snd_cons (snd_iload_n X dX8_warmer_52 rfl) ?_
  refine snd_cons (snd_aload_n X dX8_warmer_53 rfl) ?_
  refine snd_cons (snd_getf X Fk8 0 (by decide) w_647 dX8_warmer_54) ?_
  refine snd_cons (snd_bipush X dX8_warmer_57 (by decide)) ?_
  refine snd_cons (snd_iaload X dX8_warmer_59) ?_
  refine snd_cons (snd_isub X dX8_warmer_60) ?_
  refine snd_cons (snd_aload_n X dX8_warmer_61 rfl) ?_
  refine snd_cons (snd_getf X Fk8 0 (by decide) w_647 dX8_warmer_62) ?_
  refine snd_cons (snd_iload_n X dX8_warmer_65 rfl) ?_
  refine snd_cons (snd_callS X (ok_X8_roomAt l D ca) rfl rfl w_644 w_645 w_9 w_646 (by decide) (by decide) dX8_warmer_66) ?_
  refine snd_cons (snd_iconst X dX8_warmer_69 (by decide)) ?_
  refine snd_cons (snd_iadd X dX8_warmer_70) ?_
  refine snd_cons (snd_iaload X dX8_warmer_71) ?_
  refine snd_cons (snd_idiv X dX8_warmer_72) ?_
  refine snd_cons (snd_isub X dX8_warmer_73) ?_
  refine snd_cons (snd_istore X dX8_warmer_74 (by decide)) ?_
  refine snd_cons (snd_iload X dX8_warmer_76) ?_
  refine snd_cons (snd_aload_n X dX8_warmer_78 rfl) ?_
  refine snd_cons (snd_iload_n X dX8_warmer_79 rfl) ?_
  refine snd_cons (snd_callV X Fk8 (ok_X8_isOpen l D ca) rfl rfl w_829 w_831 wp_34 w_9 w_832 (by decide) (by decide) dX8_warmer_80) ?_
  refine snd_cons (snd_if_eq X dX8_warmer_83 (by decide)) ?_
  refine snd_cons (snd_iload_n X dX8_warmer_86 rfl) ?_
  refine snd_cons (snd_aload_n X dX8_warmer_87 rfl) ?_
  refine snd_cons (snd_getf X Fk8 0 (by decide) w_647 dX8_warmer_88) ?_
  refine snd_cons (snd_iload_n X dX8_warmer_91 rfl) ?_
  refine snd_cons (snd_callS X (ok_X8_roomAt l D ca) rfl rfl w_644 w_645 w_9 w_646 (by decide) (by decide) dX8_warmer_92) ?_
  refine snd_cons (snd_iaload X dX8_warmer_95) ?_
  refine snd_cons (snd_isub X dX8_warmer_96) ?_
  refine snd_cons (snd_bipush X dX8_warmer_97 (by decide)) ?_
  refine snd_cons (snd_idiv X dX8_warmer_99) ?_
  refine snd_cons (snd_goto X dX8_warmer_100 (by decide)) ?_
  refine snd_cons (snd_iconst X dX8_warmer_103 (by decide)) ?_
  refine snd_cons (snd_isub X dX8_warmer_104) ?_
  refine snd_cons (snd_istore X dX8_warmer_105 (by decide)) ?_
  refine snd_cons (snd_iload X dX8_warmer_107) ?_
  refine snd_cons (snd_aload_n X dX8_warmer_109 rfl) ?_
  refine snd_cons (snd_iload X dX8_warmer_110) ?_
  refine snd_cons (snd_callV X Fk8 (ok_X8_isOpen l D ca) rfl rfl w_829 w_831 wp_34 w_9 w_832 (by decide) (by decide) dX8_warmer_112) ?_
  refine snd_cons (snd_if_eq X dX8_warmer_115 (by decide)) ?_
  refine snd_cons (snd_iload_n X dX8_warmer_118 rfl) ?_
  refine snd_cons (snd_aload_n X dX8_warmer_119 rfl) ?_
  refine snd_cons (snd_getf X Fk8 0 (by decide) w_647 dX8_warmer_120) ?_
  refine snd_cons (snd_iload X dX8_warmer_123) ?_
  refine snd_cons (snd_callS X (ok_X8_roomAt l D ca) rfl rfl w_644 w_645 w_9 w_646 (by decide) (by decide) dX8_warmer_125) ?_
  refine snd_cons (snd_iaload X dX8_warmer_128) ?_
  refine snd_cons (snd_isub X dX8_warmer_129) ?_
  refine snd_cons (snd_bipush X dX8_warmer_130 (by decide)) ?_
  refine snd_cons (snd_idiv X dX8_warmer_132) ?_
  refine snd_cons (snd_goto X dX8_warmer_133 (by decide)) ?_
  refine snd_cons (snd_iconst X dX8_warmer_136 (by decide)) ?_
  refine snd_cons (snd_isub X dX8_warmer_137) ?_
  refine snd_cons (snd_istore X dX8_warmer_138 (by decide)) ?_
  refine snd_cons (snd_iload X dX8_warmer_140) ?_
  refine snd_cons (snd_sipush X dX8_warmer_142 (by decide)) ?_
  refine snd_cons (snd_icmp_ge X dX8_warmer_145 (by decide)) ?_
  refine snd_cons (snd_sipush X dX8_warmer_148 (by decide)) ?_
  refine snd_cons (snd_goto X dX8_warmer_151 (by decide)) ?_
  refine snd_cons (snd_iload X dX8_warmer_154) ?_
  refine snd_cons (snd_sipush X dX8_warmer_156 (by decide)) ?_
  refine snd_cons (snd_icmp_le X dX8_warmer_159 (by decide)) ?_
  refine snd_cons (snd_sipush X dX8_warmer_162 (by decide)) ?_
  refine snd_cons (snd_goto X dX8_warmer_165 (by decide)) ?_
  refine snd_cons (snd_iload X dX8_warmer_168) ?_
  refine snd_cons (snd_ret X dX8_warmer_170) ?_
  exact snd_nil
theorem k_X8_warmer_0 (ca : Nat → ClassId) : k_X8_warmer ca 0 = i_aload 0 1 := rfl
theorem k_X8_warmer_1 (ca : Nat → ClassId) : k_X8_warmer ca 1 = i_getf 8 0 4 := rfl
theorem k_X8_warmer_4 (ca : Nat → ClassId) : k_X8_warmer ca 4 = i_iload 1 5 := rfl
theorem k_X8_warmer_5 (ca : Nat → ClassId) : k_X8_warmer ca 5 = i_callS 1 0 0 0 0 (sp_X8_roomAt ca) 8 := rfl
theorem k_X8_warmer_8 (ca : Nat → ClassId) : k_X8_warmer ca 8 = i_ald (ca 0) 9 := rfl
theorem k_X8_warmer_9 (ca : Nat → ClassId) : k_X8_warmer ca 9 = i_istore 2 10 := rfl
theorem k_X8_warmer_10 (ca : Nat → ClassId) : k_X8_warmer ca 10 = i_iload 1 11 := rfl
theorem k_X8_warmer_11 (ca : Nat → ClassId) : k_X8_warmer ca 11 = i_push (.int 1) 12 := rfl
theorem k_X8_warmer_12 (ca : Nat → ClassId) : k_X8_warmer ca 12 = i_bin (fun x y => x + y) 13 := rfl
theorem k_X8_warmer_13 (ca : Nat → ClassId) : k_X8_warmer ca 13 = i_push (.int 3) 14 := rfl
theorem k_X8_warmer_14 (ca : Nat → ClassId) : k_X8_warmer ca 14 = i_dv (fun x y => x - x / y * y) 15 := rfl
theorem k_X8_warmer_15 (ca : Nat → ClassId) : k_X8_warmer ca 15 = i_istore 3 16 := rfl
theorem k_X8_warmer_16 (ca : Nat → ClassId) : k_X8_warmer ca 16 = i_iload 1 17 := rfl
theorem k_X8_warmer_17 (ca : Nat → ClassId) : k_X8_warmer ca 17 = i_push (.int 2) 18 := rfl
theorem k_X8_warmer_18 (ca : Nat → ClassId) : k_X8_warmer ca 18 = i_bin (fun x y => x + y) 19 := rfl
theorem k_X8_warmer_19 (ca : Nat → ClassId) : k_X8_warmer ca 19 = i_push (.int 3) 20 := rfl
theorem k_X8_warmer_20 (ca : Nat → ClassId) : k_X8_warmer ca 20 = i_dv (fun x y => x - x / y * y) 21 := rfl
theorem k_X8_warmer_21 (ca : Nat → ClassId) : k_X8_warmer ca 21 = i_istore 4 23 := rfl
theorem k_X8_warmer_23 (ca : Nat → ClassId) : k_X8_warmer ca 23 = i_iload 2 24 := rfl
theorem k_X8_warmer_24 (ca : Nat → ClassId) : k_X8_warmer ca 24 = i_aload 0 25 := rfl
theorem k_X8_warmer_25 (ca : Nat → ClassId) : k_X8_warmer ca 25 = i_iload 1 26 := rfl
theorem k_X8_warmer_26 (ca : Nat → ClassId) : k_X8_warmer ca 26 = i_callV 8 1 0 0 0 0 (sp_X8_isClosed ca) 29 := rfl
theorem k_X8_warmer_29 (ca : Nat → ClassId) : k_X8_warmer ca 29 = i_if (fun x => x = 0) 46 32 := rfl
theorem k_X8_warmer_32 (ca : Nat → ClassId) : k_X8_warmer ca 32 = i_aload 0 33 := rfl
theorem k_X8_warmer_33 (ca : Nat → ClassId) : k_X8_warmer ca 33 = i_getf 8 0 36 := rfl
theorem k_X8_warmer_36 (ca : Nat → ClassId) : k_X8_warmer ca 36 = i_iload 1 37 := rfl
theorem k_X8_warmer_37 (ca : Nat → ClassId) : k_X8_warmer ca 37 = i_callS 1 0 0 0 0 (sp_X8_roomAt ca) 40 := rfl
theorem k_X8_warmer_40 (ca : Nat → ClassId) : k_X8_warmer ca 40 = i_push (.int 1) 41 := rfl
theorem k_X8_warmer_41 (ca : Nat → ClassId) : k_X8_warmer ca 41 = i_bin (fun x y => x + y) 42 := rfl
theorem k_X8_warmer_42 (ca : Nat → ClassId) : k_X8_warmer ca 42 = i_ald (ca 0) 43 := rfl
theorem k_X8_warmer_43 (ca : Nat → ClassId) : k_X8_warmer ca 43 = i_goto 47 := rfl
theorem k_X8_warmer_46 (ca : Nat → ClassId) : k_X8_warmer ca 46 = i_push (.int 0) 47 := rfl
theorem k_X8_warmer_47 (ca : Nat → ClassId) : k_X8_warmer ca 47 = i_bin (fun x y => x + y) 48 := rfl
theorem k_X8_warmer_48 (ca : Nat → ClassId) : k_X8_warmer ca 48 = i_istore 5 50 := rfl
theorem k_X8_warmer_50 (ca : Nat → ClassId) : k_X8_warmer ca 50 = i_iload 5 52 := rfl
theorem k_X8_warmer_52 (ca : Nat → ClassId) : k_X8_warmer ca 52 = i_iload 2 53 := rfl
theorem k_X8_warmer_53 (ca : Nat → ClassId) : k_X8_warmer ca 53 = i_aload 0 54 := rfl
theorem k_X8_warmer_54 (ca : Nat → ClassId) : k_X8_warmer ca 54 = i_getf 8 0 57 := rfl
theorem k_X8_warmer_57 (ca : Nat → ClassId) : k_X8_warmer ca 57 = i_push (.int 8) 59 := rfl
theorem k_X8_warmer_59 (ca : Nat → ClassId) : k_X8_warmer ca 59 = i_ald (ca 0) 60 := rfl
theorem k_X8_warmer_60 (ca : Nat → ClassId) : k_X8_warmer ca 60 = i_bin (fun x y => x - y) 61 := rfl
theorem k_X8_warmer_61 (ca : Nat → ClassId) : k_X8_warmer ca 61 = i_aload 0 62 := rfl
theorem k_X8_warmer_62 (ca : Nat → ClassId) : k_X8_warmer ca 62 = i_getf 8 0 65 := rfl
theorem k_X8_warmer_65 (ca : Nat → ClassId) : k_X8_warmer ca 65 = i_iload 1 66 := rfl
theorem k_X8_warmer_66 (ca : Nat → ClassId) : k_X8_warmer ca 66 = i_callS 1 0 0 0 0 (sp_X8_roomAt ca) 69 := rfl
theorem k_X8_warmer_69 (ca : Nat → ClassId) : k_X8_warmer ca 69 = i_push (.int 2) 70 := rfl
theorem k_X8_warmer_70 (ca : Nat → ClassId) : k_X8_warmer ca 70 = i_bin (fun x y => x + y) 71 := rfl
theorem k_X8_warmer_71 (ca : Nat → ClassId) : k_X8_warmer ca 71 = i_ald (ca 0) 72 := rfl
theorem k_X8_warmer_72 (ca : Nat → ClassId) : k_X8_warmer ca 72 = i_dv (fun x y => x / y) 73 := rfl
theorem k_X8_warmer_73 (ca : Nat → ClassId) : k_X8_warmer ca 73 = i_bin (fun x y => x - y) 74 := rfl
theorem k_X8_warmer_74 (ca : Nat → ClassId) : k_X8_warmer ca 74 = i_istore 5 76 := rfl
theorem k_X8_warmer_76 (ca : Nat → ClassId) : k_X8_warmer ca 76 = i_iload 5 78 := rfl
theorem k_X8_warmer_78 (ca : Nat → ClassId) : k_X8_warmer ca 78 = i_aload 0 79 := rfl
theorem k_X8_warmer_79 (ca : Nat → ClassId) : k_X8_warmer ca 79 = i_iload 1 80 := rfl
theorem k_X8_warmer_80 (ca : Nat → ClassId) : k_X8_warmer ca 80 = i_callV 8 1 0 0 0 0 (sp_X8_isOpen ca) 83 := rfl
theorem k_X8_warmer_83 (ca : Nat → ClassId) : k_X8_warmer ca 83 = i_if (fun x => x = 0) 103 86 := rfl
theorem k_X8_warmer_86 (ca : Nat → ClassId) : k_X8_warmer ca 86 = i_iload 2 87 := rfl
theorem k_X8_warmer_87 (ca : Nat → ClassId) : k_X8_warmer ca 87 = i_aload 0 88 := rfl
theorem k_X8_warmer_88 (ca : Nat → ClassId) : k_X8_warmer ca 88 = i_getf 8 0 91 := rfl
theorem k_X8_warmer_91 (ca : Nat → ClassId) : k_X8_warmer ca 91 = i_iload 3 92 := rfl
theorem k_X8_warmer_92 (ca : Nat → ClassId) : k_X8_warmer ca 92 = i_callS 1 0 0 0 0 (sp_X8_roomAt ca) 95 := rfl
theorem k_X8_warmer_95 (ca : Nat → ClassId) : k_X8_warmer ca 95 = i_ald (ca 0) 96 := rfl
theorem k_X8_warmer_96 (ca : Nat → ClassId) : k_X8_warmer ca 96 = i_bin (fun x y => x - y) 97 := rfl
theorem k_X8_warmer_97 (ca : Nat → ClassId) : k_X8_warmer ca 97 = i_push (.int 10) 99 := rfl
theorem k_X8_warmer_99 (ca : Nat → ClassId) : k_X8_warmer ca 99 = i_dv (fun x y => x / y) 100 := rfl
theorem k_X8_warmer_100 (ca : Nat → ClassId) : k_X8_warmer ca 100 = i_goto 104 := rfl
theorem k_X8_warmer_103 (ca : Nat → ClassId) : k_X8_warmer ca 103 = i_push (.int 0) 104 := rfl
theorem k_X8_warmer_104 (ca : Nat → ClassId) : k_X8_warmer ca 104 = i_bin (fun x y => x - y) 105 := rfl
theorem k_X8_warmer_105 (ca : Nat → ClassId) : k_X8_warmer ca 105 = i_istore 5 107 := rfl
theorem k_X8_warmer_107 (ca : Nat → ClassId) : k_X8_warmer ca 107 = i_iload 5 109 := rfl
theorem k_X8_warmer_109 (ca : Nat → ClassId) : k_X8_warmer ca 109 = i_aload 0 110 := rfl
theorem k_X8_warmer_110 (ca : Nat → ClassId) : k_X8_warmer ca 110 = i_iload 4 112 := rfl
theorem k_X8_warmer_112 (ca : Nat → ClassId) : k_X8_warmer ca 112 = i_callV 8 1 0 0 0 0 (sp_X8_isOpen ca) 115 := rfl
theorem k_X8_warmer_115 (ca : Nat → ClassId) : k_X8_warmer ca 115 = i_if (fun x => x = 0) 136 118 := rfl
theorem k_X8_warmer_118 (ca : Nat → ClassId) : k_X8_warmer ca 118 = i_iload 2 119 := rfl
theorem k_X8_warmer_119 (ca : Nat → ClassId) : k_X8_warmer ca 119 = i_aload 0 120 := rfl
theorem k_X8_warmer_120 (ca : Nat → ClassId) : k_X8_warmer ca 120 = i_getf 8 0 123 := rfl
theorem k_X8_warmer_123 (ca : Nat → ClassId) : k_X8_warmer ca 123 = i_iload 4 125 := rfl
theorem k_X8_warmer_125 (ca : Nat → ClassId) : k_X8_warmer ca 125 = i_callS 1 0 0 0 0 (sp_X8_roomAt ca) 128 := rfl
theorem k_X8_warmer_128 (ca : Nat → ClassId) : k_X8_warmer ca 128 = i_ald (ca 0) 129 := rfl
theorem k_X8_warmer_129 (ca : Nat → ClassId) : k_X8_warmer ca 129 = i_bin (fun x y => x - y) 130 := rfl
theorem k_X8_warmer_130 (ca : Nat → ClassId) : k_X8_warmer ca 130 = i_push (.int 10) 132 := rfl
theorem k_X8_warmer_132 (ca : Nat → ClassId) : k_X8_warmer ca 132 = i_dv (fun x y => x / y) 133 := rfl
theorem k_X8_warmer_133 (ca : Nat → ClassId) : k_X8_warmer ca 133 = i_goto 137 := rfl
theorem k_X8_warmer_136 (ca : Nat → ClassId) : k_X8_warmer ca 136 = i_push (.int 0) 137 := rfl
theorem k_X8_warmer_137 (ca : Nat → ClassId) : k_X8_warmer ca 137 = i_bin (fun x y => x - y) 138 := rfl
theorem k_X8_warmer_138 (ca : Nat → ClassId) : k_X8_warmer ca 138 = i_istore 5 140 := rfl
theorem k_X8_warmer_140 (ca : Nat → ClassId) : k_X8_warmer ca 140 = i_iload 5 142 := rfl
theorem k_X8_warmer_142 (ca : Nat → ClassId) : k_X8_warmer ca 142 = i_push (.int (-500)) 145 := rfl
theorem k_X8_warmer_145 (ca : Nat → ClassId) : k_X8_warmer ca 145 = i_icmp (fun x y => y ≤ x) 154 148 := rfl
theorem k_X8_warmer_148 (ca : Nat → ClassId) : k_X8_warmer ca 148 = i_push (.int (-500)) 151 := rfl
theorem k_X8_warmer_151 (ca : Nat → ClassId) : k_X8_warmer ca 151 = i_goto 170 := rfl
theorem k_X8_warmer_154 (ca : Nat → ClassId) : k_X8_warmer ca 154 = i_iload 5 156 := rfl
theorem k_X8_warmer_156 (ca : Nat → ClassId) : k_X8_warmer ca 156 = i_push (.int 1500) 159 := rfl
theorem k_X8_warmer_159 (ca : Nat → ClassId) : k_X8_warmer ca 159 = i_icmp (fun x y => x ≤ y) 168 162 := rfl
theorem k_X8_warmer_162 (ca : Nat → ClassId) : k_X8_warmer ca 162 = i_push (.int 1500) 165 := rfl
theorem k_X8_warmer_165 (ca : Nat → ClassId) : k_X8_warmer ca 165 = i_goto 170 := rfl
theorem k_X8_warmer_168 (ca : Nat → ClassId) : k_X8_warmer ca 168 = i_iload 5 170 := rfl
theorem k_X8_warmer_170 (ca : Nat → ClassId) : k_X8_warmer ca 170 = i_ret := rfl
set_option maxHeartbeats 4000000 in
set_option maxRecDepth 20000 in
theorem ok_X8_warmer (l : Launch) (D : va_G) (ca : Nat → ClassId) : OkAll l D ca yX8_warmer cX8_warmer 6 (some .int) 3 0 0 (sp_X8_warmer ca) := by
  intro av h post hs
  obtain ⟨m, a0, s, k, hk, rfl, ⟨⟨r, hm⟩, hs0⟩, ⟨hdv, hsi, ho1, ho2⟩, hs⟩ := hs
  refine okM_of t_X8_warmer (by decide +kernel) (c1_ref (c1_int c1_nil)) (Nat.le_of_ble_eq_true rfl) ?_
  intro K go
  have hk3 : k = 0 ∨ k = 1 ∨ k = 2 := by omega
  rcases hk3 with rfl | rfl | rfl
  · rw [nI_0]
    have hcl := closed_eq (ki := s 17) hsi
    simp only [Nat.reduceMul, Nat.reduceAdd, Nat.reduceMod] at hdv hsi ho1 ho2 hcl
    refine go (stp []) 100 _ _ _ _ _ _ ?_
    simp only [wpS, ite_not, i_push, i_iload, i_lload, i_aload, i_istore, i_astore, i_lstore, i_iinc, i_bin, i_dv, i_un, i_lbin, i_lsh, i_i2l, i_l2i, i_lcmp, i_dup, i_dup2, i_pop, i_if, i_icmp, i_goto, swG, i_sw, i_getf, i_puti, i_putz, i_putr, i_ald, i_lald, i_aald, i_ast, i_last, i_aast, i_alen, i_new, i_newi, i_newl, i_newq, i_oinit, i_ret, i_zret, i_lret, i_vret, catS, tk, rpush, isO, i_m1, i_m2, i_acopy, i_callV, i_callS, KRet, lget, lput, lputL, lcl0, isL, lv0, List.map_cons, List.map_nil, List.length_cons, List.length_nil, List.cons_append, List.nil_append, Nat.reduceAdd, Nat.reduceSub, Nat.reduceLeDiff, List.replicate_succ, List.replicate_zero, List.getElem?_cons_succ, List.getElem?_cons_zero, List.set_cons_succ, List.set_cons_zero, true_and, and_true, if_true, if_false, reduceIte, Nat.le_refl, Value.category, va_up_app, eq_self, stp, Nat.reduceBEq, Bool.or_false, Bool.false_or, Bool.true_or, Bool.or_true, or_true, true_or, bx_uu, implies_true, true_implies, not_true, not_false_eq_true, false_implies, and_self, Nat.reduceLT, Int32.reduceAdd, Int32.reduceSub, Int32.reduceMul, Int32.reduceLE, Int32.reduceLT, Int32.reduceToNatClampNeg, va_rf_some, Bool.false_eq_true, k_X8_warmer_0 ca, k_X8_warmer_1 ca, k_X8_warmer_4 ca, k_X8_warmer_5 ca, k_X8_warmer_8 ca, k_X8_warmer_9 ca, k_X8_warmer_10 ca, k_X8_warmer_11 ca, k_X8_warmer_12 ca, k_X8_warmer_13 ca, k_X8_warmer_14 ca, k_X8_warmer_15 ca, k_X8_warmer_16 ca, k_X8_warmer_17 ca, k_X8_warmer_18 ca, k_X8_warmer_19 ca, k_X8_warmer_20 ca, k_X8_warmer_21 ca, k_X8_warmer_23 ca, k_X8_warmer_24 ca, k_X8_warmer_25 ca, k_X8_warmer_26 ca, k_X8_warmer_29 ca, k_X8_warmer_32 ca, k_X8_warmer_33 ca, k_X8_warmer_36 ca, k_X8_warmer_37 ca, k_X8_warmer_40 ca, k_X8_warmer_41 ca, k_X8_warmer_42 ca, k_X8_warmer_43 ca, k_X8_warmer_46 ca, k_X8_warmer_47 ca, k_X8_warmer_48 ca, k_X8_warmer_50 ca, k_X8_warmer_52 ca, k_X8_warmer_53 ca, k_X8_warmer_54 ca, k_X8_warmer_57 ca, k_X8_warmer_59 ca, k_X8_warmer_60 ca, k_X8_warmer_61 ca, k_X8_warmer_62 ca, k_X8_warmer_65 ca, k_X8_warmer_66 ca, k_X8_warmer_69 ca, k_X8_warmer_70 ca, k_X8_warmer_71 ca, k_X8_warmer_72 ca, k_X8_warmer_73 ca, k_X8_warmer_74 ca, k_X8_warmer_76 ca, k_X8_warmer_78 ca, k_X8_warmer_79 ca, k_X8_warmer_80 ca, k_X8_warmer_83 ca, k_X8_warmer_86 ca, k_X8_warmer_87 ca, k_X8_warmer_88 ca, k_X8_warmer_91 ca, k_X8_warmer_92 ca, k_X8_warmer_95 ca, k_X8_warmer_96 ca, k_X8_warmer_97 ca, k_X8_warmer_99 ca, k_X8_warmer_100 ca, k_X8_warmer_103 ca, k_X8_warmer_104 ca, k_X8_warmer_105 ca, k_X8_warmer_107 ca, k_X8_warmer_109 ca, k_X8_warmer_110 ca, k_X8_warmer_112 ca, k_X8_warmer_115 ca, k_X8_warmer_118 ca, k_X8_warmer_119 ca, k_X8_warmer_120 ca, k_X8_warmer_123 ca, k_X8_warmer_125 ca, k_X8_warmer_128 ca, k_X8_warmer_129 ca, k_X8_warmer_130 ca, k_X8_warmer_132 ca, k_X8_warmer_133 ca, k_X8_warmer_136 ca, k_X8_warmer_137 ca, k_X8_warmer_138 ca, k_X8_warmer_140 ca, k_X8_warmer_142 ca, k_X8_warmer_145 ca, k_X8_warmer_148 ca, k_X8_warmer_151 ca, k_X8_warmer_154 ca, k_X8_warmer_156 ca, k_X8_warmer_159 ca, k_X8_warmer_162 ca, k_X8_warmer_165 ca, k_X8_warmer_168 ca, k_X8_warmer_170 ca, hm, hs0, sp_X8_stripAt, sp_X8_roomAt, sp_X8_isClosed, sp_X8_isOpen, vp_in, or_self, hcl, b2i_0, b2i_1, one0, zero1, n30, n100, Int32.reduceDiv, hdv]
    clear go
    simp only [wtc, wtG, Nat.reduceMul, Nat.reduceAdd, Nat.reduceMod, hdv, if_false] at hs
    generalize closedF (s 17) (s 14) = cl at *
    rcases ho1 with e1 | e1 <;> rcases ho2 with e2 | e2 <;> cases cl <;> simp only [e1, e2, one0, zero1, if_true, if_false, decide_true, decide_false, Bool.true_eq_false, Bool.false_eq_true, reduceIte, eq_self] at hs ⊢ <;> refine pclamp ?_ hs <;> simp only [Int32.add_zero, Int32.sub_zero, asc]
  · rw [n1]
    have hcl := closed_eq (ki := s 49) hsi
    simp only [Nat.reduceMul, Nat.reduceAdd, Nat.reduceMod] at hdv hsi ho1 ho2 hcl
    refine go (stp []) 100 _ _ _ _ _ _ ?_
    simp only [wpS, ite_not, i_push, i_iload, i_lload, i_aload, i_istore, i_astore, i_lstore, i_iinc, i_bin, i_dv, i_un, i_lbin, i_lsh, i_i2l, i_l2i, i_lcmp, i_dup, i_dup2, i_pop, i_if, i_icmp, i_goto, swG, i_sw, i_getf, i_puti, i_putz, i_putr, i_ald, i_lald, i_aald, i_ast, i_last, i_aast, i_alen, i_new, i_newi, i_newl, i_newq, i_oinit, i_ret, i_zret, i_lret, i_vret, catS, tk, rpush, isO, i_m1, i_m2, i_acopy, i_callV, i_callS, KRet, lget, lput, lputL, lcl0, isL, lv0, List.map_cons, List.map_nil, List.length_cons, List.length_nil, List.cons_append, List.nil_append, Nat.reduceAdd, Nat.reduceSub, Nat.reduceLeDiff, List.replicate_succ, List.replicate_zero, List.getElem?_cons_succ, List.getElem?_cons_zero, List.set_cons_succ, List.set_cons_zero, true_and, and_true, if_true, if_false, reduceIte, Nat.le_refl, Value.category, va_up_app, eq_self, stp, Nat.reduceBEq, Bool.or_false, Bool.false_or, Bool.true_or, Bool.or_true, or_true, true_or, bx_uu, implies_true, true_implies, not_true, not_false_eq_true, false_implies, and_self, Nat.reduceLT, Int32.reduceAdd, Int32.reduceSub, Int32.reduceMul, Int32.reduceLE, Int32.reduceLT, Int32.reduceToNatClampNeg, va_rf_some, Bool.false_eq_true, k_X8_warmer_0 ca, k_X8_warmer_1 ca, k_X8_warmer_4 ca, k_X8_warmer_5 ca, k_X8_warmer_8 ca, k_X8_warmer_9 ca, k_X8_warmer_10 ca, k_X8_warmer_11 ca, k_X8_warmer_12 ca, k_X8_warmer_13 ca, k_X8_warmer_14 ca, k_X8_warmer_15 ca, k_X8_warmer_16 ca, k_X8_warmer_17 ca, k_X8_warmer_18 ca, k_X8_warmer_19 ca, k_X8_warmer_20 ca, k_X8_warmer_21 ca, k_X8_warmer_23 ca, k_X8_warmer_24 ca, k_X8_warmer_25 ca, k_X8_warmer_26 ca, k_X8_warmer_29 ca, k_X8_warmer_32 ca, k_X8_warmer_33 ca, k_X8_warmer_36 ca, k_X8_warmer_37 ca, k_X8_warmer_40 ca, k_X8_warmer_41 ca, k_X8_warmer_42 ca, k_X8_warmer_43 ca, k_X8_warmer_46 ca, k_X8_warmer_47 ca, k_X8_warmer_48 ca, k_X8_warmer_50 ca, k_X8_warmer_52 ca, k_X8_warmer_53 ca, k_X8_warmer_54 ca, k_X8_warmer_57 ca, k_X8_warmer_59 ca, k_X8_warmer_60 ca, k_X8_warmer_61 ca, k_X8_warmer_62 ca, k_X8_warmer_65 ca, k_X8_warmer_66 ca, k_X8_warmer_69 ca, k_X8_warmer_70 ca, k_X8_warmer_71 ca, k_X8_warmer_72 ca, k_X8_warmer_73 ca, k_X8_warmer_74 ca, k_X8_warmer_76 ca, k_X8_warmer_78 ca, k_X8_warmer_79 ca, k_X8_warmer_80 ca, k_X8_warmer_83 ca, k_X8_warmer_86 ca, k_X8_warmer_87 ca, k_X8_warmer_88 ca, k_X8_warmer_91 ca, k_X8_warmer_92 ca, k_X8_warmer_95 ca, k_X8_warmer_96 ca, k_X8_warmer_97 ca, k_X8_warmer_99 ca, k_X8_warmer_100 ca, k_X8_warmer_103 ca, k_X8_warmer_104 ca, k_X8_warmer_105 ca, k_X8_warmer_107 ca, k_X8_warmer_109 ca, k_X8_warmer_110 ca, k_X8_warmer_112 ca, k_X8_warmer_115 ca, k_X8_warmer_118 ca, k_X8_warmer_119 ca, k_X8_warmer_120 ca, k_X8_warmer_123 ca, k_X8_warmer_125 ca, k_X8_warmer_128 ca, k_X8_warmer_129 ca, k_X8_warmer_130 ca, k_X8_warmer_132 ca, k_X8_warmer_133 ca, k_X8_warmer_136 ca, k_X8_warmer_137 ca, k_X8_warmer_138 ca, k_X8_warmer_140 ca, k_X8_warmer_142 ca, k_X8_warmer_145 ca, k_X8_warmer_148 ca, k_X8_warmer_151 ca, k_X8_warmer_154 ca, k_X8_warmer_156 ca, k_X8_warmer_159 ca, k_X8_warmer_162 ca, k_X8_warmer_165 ca, k_X8_warmer_168 ca, k_X8_warmer_170 ca, hm, hs0, sp_X8_stripAt, sp_X8_roomAt, sp_X8_isClosed, sp_X8_isOpen, vp_in, or_self, hcl, b2i_0, b2i_1, one0, zero1, n30, n100, Int32.reduceDiv, hdv]
    clear go
    simp only [wtc, wtG, Nat.reduceMul, Nat.reduceAdd, Nat.reduceMod, hdv, if_false] at hs
    generalize closedF (s 49) (s 46) = cl at *
    rcases ho1 with e1 | e1 <;> rcases ho2 with e2 | e2 <;> cases cl <;> simp only [e1, e2, one0, zero1, if_true, if_false, decide_true, decide_false, Bool.true_eq_false, Bool.false_eq_true, reduceIte, eq_self] at hs ⊢ <;> refine pclamp ?_ hs <;> simp only [Int32.add_zero, Int32.sub_zero, asc]
  · rw [n2]
    have hcl := closed_eq (ki := s 81) hsi
    simp only [Nat.reduceMul, Nat.reduceAdd, Nat.reduceMod] at hdv hsi ho1 ho2 hcl
    refine go (stp []) 100 _ _ _ _ _ _ ?_
    simp only [wpS, ite_not, i_push, i_iload, i_lload, i_aload, i_istore, i_astore, i_lstore, i_iinc, i_bin, i_dv, i_un, i_lbin, i_lsh, i_i2l, i_l2i, i_lcmp, i_dup, i_dup2, i_pop, i_if, i_icmp, i_goto, swG, i_sw, i_getf, i_puti, i_putz, i_putr, i_ald, i_lald, i_aald, i_ast, i_last, i_aast, i_alen, i_new, i_newi, i_newl, i_newq, i_oinit, i_ret, i_zret, i_lret, i_vret, catS, tk, rpush, isO, i_m1, i_m2, i_acopy, i_callV, i_callS, KRet, lget, lput, lputL, lcl0, isL, lv0, List.map_cons, List.map_nil, List.length_cons, List.length_nil, List.cons_append, List.nil_append, Nat.reduceAdd, Nat.reduceSub, Nat.reduceLeDiff, List.replicate_succ, List.replicate_zero, List.getElem?_cons_succ, List.getElem?_cons_zero, List.set_cons_succ, List.set_cons_zero, true_and, and_true, if_true, if_false, reduceIte, Nat.le_refl, Value.category, va_up_app, eq_self, stp, Nat.reduceBEq, Bool.or_false, Bool.false_or, Bool.true_or, Bool.or_true, or_true, true_or, bx_uu, implies_true, true_implies, not_true, not_false_eq_true, false_implies, and_self, Nat.reduceLT, Int32.reduceAdd, Int32.reduceSub, Int32.reduceMul, Int32.reduceLE, Int32.reduceLT, Int32.reduceToNatClampNeg, va_rf_some, Bool.false_eq_true, k_X8_warmer_0 ca, k_X8_warmer_1 ca, k_X8_warmer_4 ca, k_X8_warmer_5 ca, k_X8_warmer_8 ca, k_X8_warmer_9 ca, k_X8_warmer_10 ca, k_X8_warmer_11 ca, k_X8_warmer_12 ca, k_X8_warmer_13 ca, k_X8_warmer_14 ca, k_X8_warmer_15 ca, k_X8_warmer_16 ca, k_X8_warmer_17 ca, k_X8_warmer_18 ca, k_X8_warmer_19 ca, k_X8_warmer_20 ca, k_X8_warmer_21 ca, k_X8_warmer_23 ca, k_X8_warmer_24 ca, k_X8_warmer_25 ca, k_X8_warmer_26 ca, k_X8_warmer_29 ca, k_X8_warmer_32 ca, k_X8_warmer_33 ca, k_X8_warmer_36 ca, k_X8_warmer_37 ca, k_X8_warmer_40 ca, k_X8_warmer_41 ca, k_X8_warmer_42 ca, k_X8_warmer_43 ca, k_X8_warmer_46 ca, k_X8_warmer_47 ca, k_X8_warmer_48 ca, k_X8_warmer_50 ca, k_X8_warmer_52 ca, k_X8_warmer_53 ca, k_X8_warmer_54 ca, k_X8_warmer_57 ca, k_X8_warmer_59 ca, k_X8_warmer_60 ca, k_X8_warmer_61 ca, k_X8_warmer_62 ca, k_X8_warmer_65 ca, k_X8_warmer_66 ca, k_X8_warmer_69 ca, k_X8_warmer_70 ca, k_X8_warmer_71 ca, k_X8_warmer_72 ca, k_X8_warmer_73 ca, k_X8_warmer_74 ca, k_X8_warmer_76 ca, k_X8_warmer_78 ca, k_X8_warmer_79 ca, k_X8_warmer_80 ca, k_X8_warmer_83 ca, k_X8_warmer_86 ca, k_X8_warmer_87 ca, k_X8_warmer_88 ca, k_X8_warmer_91 ca, k_X8_warmer_92 ca, k_X8_warmer_95 ca, k_X8_warmer_96 ca, k_X8_warmer_97 ca, k_X8_warmer_99 ca, k_X8_warmer_100 ca, k_X8_warmer_103 ca, k_X8_warmer_104 ca, k_X8_warmer_105 ca, k_X8_warmer_107 ca, k_X8_warmer_109 ca, k_X8_warmer_110 ca, k_X8_warmer_112 ca, k_X8_warmer_115 ca, k_X8_warmer_118 ca, k_X8_warmer_119 ca, k_X8_warmer_120 ca, k_X8_warmer_123 ca, k_X8_warmer_125 ca, k_X8_warmer_128 ca, k_X8_warmer_129 ca, k_X8_warmer_130 ca, k_X8_warmer_132 ca, k_X8_warmer_133 ca, k_X8_warmer_136 ca, k_X8_warmer_137 ca, k_X8_warmer_138 ca, k_X8_warmer_140 ca, k_X8_warmer_142 ca, k_X8_warmer_145 ca, k_X8_warmer_148 ca, k_X8_warmer_151 ca, k_X8_warmer_154 ca, k_X8_warmer_156 ca, k_X8_warmer_159 ca, k_X8_warmer_162 ca, k_X8_warmer_165 ca, k_X8_warmer_168 ca, k_X8_warmer_170 ca, hm, hs0, sp_X8_stripAt, sp_X8_roomAt, sp_X8_isClosed, sp_X8_isOpen, vp_in, or_self, hcl, b2i_0, b2i_1, one0, zero1, n30, n100, Int32.reduceDiv, hdv]
    clear go
    simp only [wtc, wtG, Nat.reduceMul, Nat.reduceAdd, Nat.reduceMod, hdv, if_false] at hs
    generalize closedF (s 81) (s 78) = cl at *
    rcases ho1 with e1 | e1 <;> rcases ho2 with e2 | e2 <;> cases cl <;> simp only [e1, e2, one0, zero1, if_true, if_false, decide_true, decide_false, Bool.true_eq_false, Bool.false_eq_true, reduceIte, eq_self] at hs ⊢ <;> refine pclamp ?_ hs <;> simp only [Int32.add_zero, Int32.sub_zero, asc]
def sp_X8_laysBends (ca : Nat → ClassId) : SPEC := fun av h post => ∃ m a st len fm at' re s f, av = [.ref m] ∧ h m = some (eMod a st len fm at' re) ∧ h (a 0) = some (.inl (ca 0, 127, .inl s)) ∧ h (a 4) = some (.inl (ca 0, 3, .inl f)) ∧ WfS s ∧ ¬ m = a 4 ∧ ¬ a 0 = a 4 ∧ ∀ r, (∀ k, k < 3 → r k = rt s (10 + 32 * k)) → post none (va_up h (a 4) (some (.inl (ca 0, 3, .inl r))))
def k_X8_laysBends (ca : Nat → ClassId) : Nat → IT := fun pc => lk pc [(0, i_push (.int 0) 1),
  (1, i_istore 1 2),
  (2, i_iload 1 3),
  (3, i_push (.int 3) 4),
  (4, i_icmp (fun x y => y ≤ x) 24 7),
  (7, i_aload 0 8),
  (8, i_getf 8 6 11),
  (11, i_iload 1 12),
  (12, i_aload 0 13),
  (13, i_iload 1 14),
  (14, i_callV 8 1 0 0 0 0 (sp_X8_bendOfStrip ca) 17),
  (17, i_ast (fun x => x) (ca 0) 18),
  (18, i_iinc 1 1 21),
  (21, i_goto 2),
  (24, i_vret)]
set_option maxRecDepth 20000 in
theorem t_X8_laysBends : Tb k_X8_laysBends yX8_laysBends cX8_laysBends 2 none 4 0 0 := by
  intro l D ca A p e s m args below meth c post X
  unfold k_X8_laysBends
  refine snd_cons (snd_iconst X dX8_laysBends_0 (by decide)) ?_
  refine snd_cons (snd_istore_n X dX8_laysBends_1 rfl (by decide)) ?_
  refine snd_cons (snd_iload_n X dX8_laysBends_2 rfl) ?_
  refine snd_cons (snd_iconst X dX8_laysBends_3 (by decide)) ?_
  refine snd_cons (snd_icmp_ge X dX8_laysBends_4 (by decide)) ?_
  refine snd_cons (snd_aload_n X dX8_laysBends_7 rfl) ?_
  refine snd_cons (snd_getf X Fk8 6 (by decide) w_653 dX8_laysBends_8) ?_
  refine snd_cons (snd_iload_n X dX8_laysBends_11 rfl) ?_
  refine snd_cons (snd_aload_n X dX8_laysBends_12 rfl) ?_
  refine snd_cons (snd_iload_n X dX8_laysBends_13 rfl) ?_
  refine snd_cons (snd_callV X Fk8 (ok_X8_bendOfStrip l D ca) rfl rfl w_762 w_764 wp_25 w_9 w_765 (by decide) (by decide) dX8_laysBends_14) ?_
  refine snd_cons (snd_iastore X dX8_laysBends_17) ?_
  refine snd_cons (snd_iinc X dX8_laysBends_18 (by decide) (by decide)) ?_
  refine snd_cons (snd_goto X dX8_laysBends_21 (by decide)) ?_
  refine snd_cons (snd_vret X dX8_laysBends_24) ?_
  exact snd_nil
theorem k_X8_laysBends_0 (ca : Nat → ClassId) : k_X8_laysBends ca 0 = i_push (.int 0) 1 := rfl
theorem k_X8_laysBends_1 (ca : Nat → ClassId) : k_X8_laysBends ca 1 = i_istore 1 2 := rfl
theorem k_X8_laysBends_2 (ca : Nat → ClassId) : k_X8_laysBends ca 2 = i_iload 1 3 := rfl
theorem k_X8_laysBends_3 (ca : Nat → ClassId) : k_X8_laysBends ca 3 = i_push (.int 3) 4 := rfl
theorem k_X8_laysBends_4 (ca : Nat → ClassId) : k_X8_laysBends ca 4 = i_icmp (fun x y => y ≤ x) 24 7 := rfl
theorem k_X8_laysBends_7 (ca : Nat → ClassId) : k_X8_laysBends ca 7 = i_aload 0 8 := rfl
theorem k_X8_laysBends_8 (ca : Nat → ClassId) : k_X8_laysBends ca 8 = i_getf 8 6 11 := rfl
theorem k_X8_laysBends_11 (ca : Nat → ClassId) : k_X8_laysBends ca 11 = i_iload 1 12 := rfl
theorem k_X8_laysBends_12 (ca : Nat → ClassId) : k_X8_laysBends ca 12 = i_aload 0 13 := rfl
theorem k_X8_laysBends_13 (ca : Nat → ClassId) : k_X8_laysBends ca 13 = i_iload 1 14 := rfl
theorem k_X8_laysBends_14 (ca : Nat → ClassId) : k_X8_laysBends ca 14 = i_callV 8 1 0 0 0 0 (sp_X8_bendOfStrip ca) 17 := rfl
theorem k_X8_laysBends_17 (ca : Nat → ClassId) : k_X8_laysBends ca 17 = i_ast (fun x => x) (ca 0) 18 := rfl
theorem k_X8_laysBends_18 (ca : Nat → ClassId) : k_X8_laysBends ca 18 = i_iinc 1 1 21 := rfl
theorem k_X8_laysBends_21 (ca : Nat → ClassId) : k_X8_laysBends ca 21 = i_goto 2 := rfl
theorem k_X8_laysBends_24 (ca : Nat → ClassId) : k_X8_laysBends ca 24 = i_vret := rfl
set_option maxHeartbeats 4000000 in
set_option maxRecDepth 20000 in
theorem ok_X8_laysBends (l : Launch) (D : va_G) (ca : Nat → ClassId) : OkAll l D ca yX8_laysBends cX8_laysBends 2 none 4 0 0 (sp_X8_laysBends ca) := by
  intro av h post hs
  obtain ⟨m, a, st, len, fm, at', re, s, f, rfl, hm, h0, h4, ⟨w1, w2, w3⟩, d1, d2, hs⟩ := hs
  have hm' := hm
  unfold eMod at hm'
  refine okM_of t_X8_laysBends (by decide +kernel) (c1_ref c1_nil) (Nat.le_of_ble_eq_true rfl) ?_
  intro K go
  refine go (stp [17]) 14 _ _ _ _ _ _ ?_
  simp only [wpS, ite_not, i_push, i_iload, i_lload, i_aload, i_istore, i_astore, i_lstore, i_iinc, i_bin, i_dv, i_un, i_lbin, i_lsh, i_i2l, i_l2i, i_lcmp, i_dup, i_dup2, i_pop, i_if, i_icmp, i_goto, swG, i_sw, i_getf, i_puti, i_putz, i_putr, i_ald, i_lald, i_aald, i_ast, i_last, i_aast, i_alen, i_new, i_newi, i_newl, i_newq, i_oinit, i_ret, i_zret, i_lret, i_vret, catS, tk, rpush, isO, i_m1, i_m2, i_acopy, i_callV, i_callS, KRet, lget, lput, lputL, lcl0, isL, lv0, List.map_cons, List.map_nil, List.length_cons, List.length_nil, List.cons_append, List.nil_append, Nat.reduceAdd, Nat.reduceSub, Nat.reduceLeDiff, List.replicate_succ, List.replicate_zero, List.getElem?_cons_succ, List.getElem?_cons_zero, List.set_cons_succ, List.set_cons_zero, true_and, and_true, if_true, if_false, reduceIte, Nat.le_refl, Value.category, va_up_app, eq_self, stp, Nat.reduceBEq, Bool.or_false, Bool.false_or, Bool.true_or, Bool.or_true, or_true, true_or, bx_uu, implies_true, true_implies, not_true, not_false_eq_true, false_implies, and_self, Nat.reduceLT, Int32.reduceAdd, Int32.reduceSub, Int32.reduceMul, Int32.reduceLE, Int32.reduceLT, Int32.reduceToNatClampNeg, va_rf_some, Bool.false_eq_true, k_X8_laysBends_0 ca, k_X8_laysBends_1 ca, k_X8_laysBends_2 ca, k_X8_laysBends_3 ca, k_X8_laysBends_4 ca, k_X8_laysBends_7 ca, k_X8_laysBends_8 ca, k_X8_laysBends_11 ca, k_X8_laysBends_12 ca, k_X8_laysBends_13 ca, k_X8_laysBends_14 ca, k_X8_laysBends_17 ca, k_X8_laysBends_18 ca, k_X8_laysBends_21 ca, k_X8_laysBends_24 ca, hm', vp_in, or_self]
  refine ⟨m, a 0, s, 0, by omega, rfl, ⟨⟨_, hm'⟩, h0⟩, w1, ?_⟩
  refine go (stp [17]) 16 _ _ _ _ _ _ ?_
  simp only [wpS, ite_not, i_push, i_iload, i_lload, i_aload, i_istore, i_astore, i_lstore, i_iinc, i_bin, i_dv, i_un, i_lbin, i_lsh, i_i2l, i_l2i, i_lcmp, i_dup, i_dup2, i_pop, i_if, i_icmp, i_goto, swG, i_sw, i_getf, i_puti, i_putz, i_putr, i_ald, i_lald, i_aald, i_ast, i_last, i_aast, i_alen, i_new, i_newi, i_newl, i_newq, i_oinit, i_ret, i_zret, i_lret, i_vret, catS, tk, rpush, isO, i_m1, i_m2, i_acopy, i_callV, i_callS, KRet, lget, lput, lputL, lcl0, isL, lv0, List.map_cons, List.map_nil, List.length_cons, List.length_nil, List.cons_append, List.nil_append, Nat.reduceAdd, Nat.reduceSub, Nat.reduceLeDiff, List.replicate_succ, List.replicate_zero, List.getElem?_cons_succ, List.getElem?_cons_zero, List.set_cons_succ, List.set_cons_zero, true_and, and_true, if_true, if_false, reduceIte, Nat.le_refl, Value.category, va_up_app, eq_self, stp, Nat.reduceBEq, Bool.or_false, Bool.false_or, Bool.true_or, Bool.or_true, or_true, true_or, bx_uu, implies_true, true_implies, not_true, not_false_eq_true, false_implies, and_self, Nat.reduceLT, Int32.reduceAdd, Int32.reduceSub, Int32.reduceMul, Int32.reduceLE, Int32.reduceLT, Int32.reduceToNatClampNeg, va_rf_some, Bool.false_eq_true, k_X8_laysBends_0 ca, k_X8_laysBends_1 ca, k_X8_laysBends_2 ca, k_X8_laysBends_3 ca, k_X8_laysBends_4 ca, k_X8_laysBends_7 ca, k_X8_laysBends_8 ca, k_X8_laysBends_11 ca, k_X8_laysBends_12 ca, k_X8_laysBends_13 ca, k_X8_laysBends_14 ca, k_X8_laysBends_17 ca, k_X8_laysBends_18 ca, k_X8_laysBends_21 ca, k_X8_laysBends_24 ca, hm', h4, d1, vp_in, or_self]
  refine ⟨m, a 0, s, 1, by omega, rfl, ⟨⟨_, (va_up_ne _ _ d1).trans hm'⟩, (va_up_ne _ _ d2).trans h0⟩, w2, ?_⟩
  refine go (stp [17]) 16 _ _ _ _ _ _ ?_
  simp only [wpS, ite_not, i_push, i_iload, i_lload, i_aload, i_istore, i_astore, i_lstore, i_iinc, i_bin, i_dv, i_un, i_lbin, i_lsh, i_i2l, i_l2i, i_lcmp, i_dup, i_dup2, i_pop, i_if, i_icmp, i_goto, swG, i_sw, i_getf, i_puti, i_putz, i_putr, i_ald, i_lald, i_aald, i_ast, i_last, i_aast, i_alen, i_new, i_newi, i_newl, i_newq, i_oinit, i_ret, i_zret, i_lret, i_vret, catS, tk, rpush, isO, i_m1, i_m2, i_acopy, i_callV, i_callS, KRet, lget, lput, lputL, lcl0, isL, lv0, List.map_cons, List.map_nil, List.length_cons, List.length_nil, List.cons_append, List.nil_append, Nat.reduceAdd, Nat.reduceSub, Nat.reduceLeDiff, List.replicate_succ, List.replicate_zero, List.getElem?_cons_succ, List.getElem?_cons_zero, List.set_cons_succ, List.set_cons_zero, true_and, and_true, if_true, if_false, reduceIte, Nat.le_refl, Value.category, va_up_app, eq_self, stp, Nat.reduceBEq, Bool.or_false, Bool.false_or, Bool.true_or, Bool.or_true, or_true, true_or, bx_uu, implies_true, true_implies, not_true, not_false_eq_true, false_implies, and_self, Nat.reduceLT, Int32.reduceAdd, Int32.reduceSub, Int32.reduceMul, Int32.reduceLE, Int32.reduceLT, Int32.reduceToNatClampNeg, va_rf_some, Bool.false_eq_true, k_X8_laysBends_0 ca, k_X8_laysBends_1 ca, k_X8_laysBends_2 ca, k_X8_laysBends_3 ca, k_X8_laysBends_4 ca, k_X8_laysBends_7 ca, k_X8_laysBends_8 ca, k_X8_laysBends_11 ca, k_X8_laysBends_12 ca, k_X8_laysBends_13 ca, k_X8_laysBends_14 ca, k_X8_laysBends_17 ca, k_X8_laysBends_18 ca, k_X8_laysBends_21 ca, k_X8_laysBends_24 ca, hm', h4, d1, vp_in, or_self]
  refine ⟨m, a 0, s, 2, by omega, rfl, ⟨⟨_, (va_up_ne _ _ d1).trans hm'⟩, (va_up_ne _ _ d2).trans h0⟩, w3, ?_⟩
  refine go (stp []) 16 _ _ _ _ _ _ ?_
  simp only [wpS, ite_not, i_push, i_iload, i_lload, i_aload, i_istore, i_astore, i_lstore, i_iinc, i_bin, i_dv, i_un, i_lbin, i_lsh, i_i2l, i_l2i, i_lcmp, i_dup, i_dup2, i_pop, i_if, i_icmp, i_goto, swG, i_sw, i_getf, i_puti, i_putz, i_putr, i_ald, i_lald, i_aald, i_ast, i_last, i_aast, i_alen, i_new, i_newi, i_newl, i_newq, i_oinit, i_ret, i_zret, i_lret, i_vret, catS, tk, rpush, isO, i_m1, i_m2, i_acopy, i_callV, i_callS, KRet, lget, lput, lputL, lcl0, isL, lv0, List.map_cons, List.map_nil, List.length_cons, List.length_nil, List.cons_append, List.nil_append, Nat.reduceAdd, Nat.reduceSub, Nat.reduceLeDiff, List.replicate_succ, List.replicate_zero, List.getElem?_cons_succ, List.getElem?_cons_zero, List.set_cons_succ, List.set_cons_zero, true_and, and_true, if_true, if_false, reduceIte, Nat.le_refl, Value.category, va_up_app, eq_self, stp, Nat.reduceBEq, Bool.or_false, Bool.false_or, Bool.true_or, Bool.or_true, or_true, true_or, bx_uu, implies_true, true_implies, not_true, not_false_eq_true, false_implies, and_self, Nat.reduceLT, Int32.reduceAdd, Int32.reduceSub, Int32.reduceMul, Int32.reduceLE, Int32.reduceLT, Int32.reduceToNatClampNeg, va_rf_some, Bool.false_eq_true, k_X8_laysBends_0 ca, k_X8_laysBends_1 ca, k_X8_laysBends_2 ca, k_X8_laysBends_3 ca, k_X8_laysBends_4 ca, k_X8_laysBends_7 ca, k_X8_laysBends_8 ca, k_X8_laysBends_11 ca, k_X8_laysBends_12 ca, k_X8_laysBends_13 ca, k_X8_laysBends_14 ca, k_X8_laysBends_17 ca, k_X8_laysBends_18 ca, k_X8_laysBends_21 ca, k_X8_laysBends_24 ca, hm', h4, d1, vp_in, or_self]
  exact hs _ (u012 rfl rfl rfl)
