/-! types, reads -/
def sp_L_types (ca : Nat → ClassId) : SPEC := fun av h post => ∃ g B s ss T n f x, av = [.ref (g 0), .int x] ∧ LC ca h g B s ss T n f ∧ ∀ h' n' f', LC ca h' g B s ss T n' f' → post (some (.int 1)) h'
def k_L_types (ca : Nat → ClassId) : Nat → IT := fun pc => if pc < 73 then lk pc [(0, i_iload 1 1),
  (1, i_push (.int 5) 2),
  (2, i_callS 2 0 0 0 0 (sp_L_low ca) 5),
  (5, i_istore 2 6),
  (6, i_aload 0 7),
  (7, i_callV 7 0 0 0 0 0 (sp_X7_clearText ca) 10),
  (10, i_if (fun x => x < 0) 17 13),
  (13, i_push (.int 1) 14),
  (14, i_goto 18),
  (17, i_push (.int 0) 18),
  (18, i_istore 3 19),
  (19, i_push (.int 0) 20),
  (20, i_istore 4 22),
  (22, i_iload 4 24),
  (24, i_iload 2 25),
  (25, i_icmp (fun x y => y ≤ x) 140 28),
  (28, i_iload 1 29),
  (29, i_push (.int 3) 30),
  (30, i_push (.int 5) 31),
  (31, i_iload 4 33),
  (33, i_bin (fun x y => x * y) 34),
  (34, i_bin (fun x y => x + y) 35),
  (35, i_bin (fun x y => x >>> (y &&& 31)) 36),
  (36, i_istore 5 38),
  (38, i_iload 3 39),
  (39, i_if (fun x => x = 0) 132 42),
  (42, i_iload 4 44),
  (44, i_if (fun x => x = 0) 56 47),
  (47, i_aload 0 48),
  (48, i_push (.int 44) 50),
  (50, i_callV 7 1 0 0 0 0 (sp_X7_type ca) 53),
  (53, i_if (fun x => x ≤ 0) 132 56),
  (56, i_aload 0 57),
  (57, i_push (.int 49) 59),
  (59, i_iload 5 61),
  (61, i_push (.int 9) 63),
  (63, i_callS 2 0 0 0 0 (sp_L_low ca) 66),
  (66, i_bin (fun x y => x + y) 67),
  (67, i_callV 7 1 0 0 0 0 (sp_X7_type ca) 70),
  (70, i_if (fun x => x ≤ 0) 132 73)] else
  if pc < 150 then lk pc [(73, i_aload 0 74),
  (74, i_push (.int 97) 76),
  (76, i_iload 5 78),
  (78, i_push (.int 2) 79),
  (79, i_bin (fun x y => x >>> (y &&& 31)) 80),
  (80, i_push (.int 6) 82),
  (82, i_callS 2 0 0 0 0 (sp_L_low ca) 85),
  (85, i_bin (fun x y => x + y) 86),
  (86, i_callV 7 1 0 0 0 0 (sp_X7_type ca) 89),
  (89, i_if (fun x => x ≤ 0) 132 92),
  (92, i_aload 0 93),
  (93, i_push (.int 97) 95),
  (95, i_iload 5 97),
  (97, i_push (.int 4) 98),
  (98, i_bin (fun x y => x >>> (y &&& 31)) 99),
  (99, i_iload 1 100),
  (100, i_push (.int 25) 102),
  (102, i_bin (fun x y => x >>> (y &&& 31)) 103),
  (103, i_push (.int 8) 105),
  (105, i_callS 2 0 0 0 0 (sp_L_low ca) 108),
  (108, i_if (fun x => ¬ x = 0) 116 111),
  (111, i_push (.int 7) 113),
  (113, i_goto 118),
  (116, i_push (.int 6) 118),
  (118, i_callS 2 0 0 0 0 (sp_L_low ca) 121),
  (121, i_bin (fun x y => x + y) 122),
  (122, i_callV 7 1 0 0 0 0 (sp_X7_type ca) 125),
  (125, i_if (fun x => x ≤ 0) 132 128),
  (128, i_push (.int 1) 129),
  (129, i_goto 133),
  (132, i_push (.int 0) 133),
  (133, i_istore 3 134),
  (134, i_iinc 4 1 137),
  (137, i_goto 22),
  (140, i_iload 3 141),
  (141, i_if (fun x => x = 0) 169 144),
  (144, i_iload 1 145),
  (145, i_push (.int 23) 147),
  (147, i_bin (fun x y => x >>> (y &&& 31)) 148),
  (148, i_push (.int 7) 150)] else
  lk pc [(150, i_callS 2 0 0 0 0 (sp_L_low ca) 153),
  (153, i_if (fun x => 0 < x) 165 156),
  (156, i_aload 0 157),
  (157, i_push (.int 44) 159),
  (159, i_callV 7 1 0 0 0 0 (sp_X7_type ca) 162),
  (162, i_if (fun x => x ≤ 0) 169 165),
  (165, i_push (.int 1) 166),
  (166, i_goto 170),
  (169, i_push (.int 0) 170),
  (170, i_zret)]
set_option maxRecDepth 20000 in
theorem t_L_types : Tb k_L_types yL_types cL_types 6 (some .boolean) 2 0 0 := by
  intro l D ca A p e s m args below meth c post X
  unfold k_L_types
  refine snd_split (73) ?_ ?_
  · refine snd_cons (snd_iload_n X dL_types_0 rfl) ?_
    refine snd_cons (snd_iconst X dL_types_1 (by decide)) ?_
    refine snd_cons (snd_callS X (ok_L_low l D ca) rfl rfl w_314 w_315 w_0 w_316 (by decide) (by decide) dL_types_2) ?_
    refine snd_cons (snd_istore_n X dL_types_5 rfl (by decide)) ?_
    refine snd_cons (snd_aload_n X dL_types_6 rfl) ?_
    refine snd_cons (snd_callV X Fk7 (ok_X7_clearText l D ca) rfl rfl w_544 w_545 w_546 w_1 w_547 (by decide) (by decide) dL_types_7) ?_
    refine snd_cons (snd_if_lt X dL_types_10 (by decide)) ?_
    refine snd_cons (snd_iconst X dL_types_13 (by decide)) ?_
    refine snd_cons (snd_goto X dL_types_14 (by decide)) ?_
    refine snd_cons (snd_iconst X dL_types_17 (by decide)) ?_
    refine snd_cons (snd_istore_n X dL_types_18 rfl (by decide)) ?_
    refine snd_cons (snd_iconst X dL_types_19 (by decide)) ?_
    refine snd_cons (snd_istore X dL_types_20 (by decide)) ?_
    refine snd_cons (snd_iload X dL_types_22) ?_
    refine snd_cons (snd_iload_n X dL_types_24 rfl) ?_
    refine snd_cons (snd_icmp_ge X dL_types_25 (by decide)) ?_
    refine snd_cons (snd_iload_n X dL_types_28 rfl) ?_
    refine snd_cons (snd_iconst X dL_types_29 (by decide)) ?_
    refine snd_cons (snd_iconst X dL_types_30 (by decide)) ?_
    refine snd_cons (snd_iload X dL_types_31) ?_
    refine snd_cons (snd_imul X dL_types_33) ?_
    refine snd_cons (snd_iadd X dL_types_34) ?_
    refine snd_cons (snd_ishr X dL_types_35) ?_
    refine snd_cons (snd_istore X dL_types_36 (by decide)) ?_
    refine snd_cons (snd_iload_n X dL_types_38 rfl) ?_
    refine snd_cons (snd_if_eq X dL_types_39 (by decide)) ?_
    refine snd_cons (snd_iload X dL_types_42) ?_
    refine snd_cons (snd_if_eq X dL_types_44 (by decide)) ?_
    refine snd_cons (snd_aload_n X dL_types_47 rfl) ?_
    refine snd_cons (snd_bipush X dL_types_48 (by decide)) ?_
    refine snd_cons (snd_callV X Fk7 (ok_X7_type l D ca) rfl rfl w_548 w_549 w_550 w_1 w_551 (by decide) (by decide) dL_types_50) ?_
    refine snd_cons (snd_if_le X dL_types_53 (by decide)) ?_
    refine snd_cons (snd_aload_n X dL_types_56 rfl) ?_
    refine snd_cons (snd_bipush X dL_types_57 (by decide)) ?_
    refine snd_cons (snd_iload X dL_types_59) ?_
    refine snd_cons (snd_bipush X dL_types_61 (by decide)) ?_
    refine snd_cons (snd_callS X (ok_L_low l D ca) rfl rfl w_314 w_315 w_0 w_316 (by decide) (by decide) dL_types_63) ?_
    refine snd_cons (snd_iadd X dL_types_66) ?_
    refine snd_cons (snd_callV X Fk7 (ok_X7_type l D ca) rfl rfl w_548 w_549 w_550 w_1 w_551 (by decide) (by decide) dL_types_67) ?_
    refine snd_cons (snd_if_le X dL_types_70 (by decide)) ?_
    exact snd_nil
  refine snd_split (150) ?_ ?_
  · refine snd_cons (snd_aload_n X dL_types_73 rfl) ?_
    refine snd_cons (snd_bipush X dL_types_74 (by decide)) ?_
    refine snd_cons (snd_iload X dL_types_76) ?_
    refine snd_cons (snd_iconst X dL_types_78 (by decide)) ?_
    refine snd_cons (snd_ishr X dL_types_79) ?_
    refine snd_cons (snd_bipush X dL_types_80 (by decide)) ?_
    refine snd_cons (snd_callS X (ok_L_low l D ca) rfl rfl w_314 w_315 w_0 w_316 (by decide) (by decide) dL_types_82) ?_
    refine snd_cons (snd_iadd X dL_types_85) ?_
    refine snd_cons (snd_callV X Fk7 (ok_X7_type l D ca) rfl rfl w_548 w_549 w_550 w_1 w_551 (by decide) (by decide) dL_types_86) ?_
    refine snd_cons (snd_if_le X dL_types_89 (by decide)) ?_
    refine snd_cons (snd_aload_n X dL_types_92 rfl) ?_
    refine snd_cons (snd_bipush X dL_types_93 (by decide)) ?_
    refine snd_cons (snd_iload X dL_types_95) ?_
    refine snd_cons (snd_iconst X dL_types_97 (by decide)) ?_
    refine snd_cons (snd_ishr X dL_types_98) ?_
    refine snd_cons (snd_iload_n X dL_types_99 rfl) ?_
    refine snd_cons (snd_bipush X dL_types_100 (by decide)) ?_
    refine snd_cons (snd_ishr X dL_types_102) ?_
    refine snd_cons (snd_bipush X dL_types_103 (by decide)) ?_
    refine snd_cons (snd_callS X (ok_L_low l D ca) rfl rfl w_314 w_315 w_0 w_316 (by decide) (by decide) dL_types_105) ?_
    refine snd_cons (snd_if_ne X dL_types_108 (by decide)) ?_
    refine snd_cons (snd_bipush X dL_types_111 (by decide)) ?_
    refine snd_cons (snd_goto X dL_types_113 (by decide)) ?_
    refine snd_cons (snd_bipush X dL_types_116 (by decide)) ?_
    refine snd_cons (snd_callS X (ok_L_low l D ca) rfl rfl w_314 w_315 w_0 w_316 (by decide) (by decide) dL_types_118) ?_
    refine snd_cons (snd_iadd X dL_types_121) ?_
    refine snd_cons (snd_callV X Fk7 (ok_X7_type l D ca) rfl rfl w_548 w_549 w_550 w_1 w_551 (by decide) (by decide) dL_types_122) ?_
    refine snd_cons (snd_if_le X dL_types_125 (by decide)) ?_
    refine snd_cons (snd_iconst X dL_types_128 (by decide)) ?_
    refine snd_cons (snd_goto X dL_types_129 (by decide)) ?_
    refine snd_cons (snd_iconst X dL_types_132 (by decide)) ?_
    refine snd_cons (snd_istore_n X dL_types_133 rfl (by decide)) ?_
    refine snd_cons (snd_iinc X dL_types_134 (by decide) (by decide)) ?_
    refine snd_cons (snd_goto X dL_types_137 (by decide)) ?_
    refine snd_cons (snd_iload_n X dL_types_140 rfl) ?_
    refine snd_cons (snd_if_eq X dL_types_141 (by decide)) ?_
    refine snd_cons (snd_iload_n X dL_types_144 rfl) ?_
    refine snd_cons (snd_bipush X dL_types_145 (by decide)) ?_
    refine snd_cons (snd_ishr X dL_types_147) ?_
    refine snd_cons (snd_bipush X dL_types_148 (by decide)) ?_
    exact snd_nil
  refine snd_cons (snd_callS X (ok_L_low l D ca) rfl rfl w_314 w_315 w_0 w_316 (by decide) (by decide) dL_types_150) ?_
  refine snd_cons (snd_if_gt X dL_types_153 (by decide)) ?_
  refine snd_cons (snd_aload_n X dL_types_156 rfl) ?_
  refine snd_cons (snd_bipush X dL_types_157 (by decide)) ?_
  refine snd_cons (snd_callV X Fk7 (ok_X7_type l D ca) rfl rfl w_548 w_549 w_550 w_1 w_551 (by decide) (by decide) dL_types_159) ?_
  refine snd_cons (snd_if_le X dL_types_162 (by decide)) ?_
  refine snd_cons (snd_iconst X dL_types_165 (by decide)) ?_
  refine snd_cons (snd_goto X dL_types_166 (by decide)) ?_
  refine snd_cons (snd_iconst X dL_types_169 (by decide)) ?_
  refine snd_cons (snd_zret X dL_types_170) ?_
  exact snd_nil
theorem k_L_types_0 (ca : Nat → ClassId) : k_L_types ca 0 = i_iload 1 1 := rfl
theorem k_L_types_1 (ca : Nat → ClassId) : k_L_types ca 1 = i_push (.int 5) 2 := rfl
theorem k_L_types_2 (ca : Nat → ClassId) : k_L_types ca 2 = i_callS 2 0 0 0 0 (sp_L_low ca) 5 := rfl
theorem k_L_types_5 (ca : Nat → ClassId) : k_L_types ca 5 = i_istore 2 6 := rfl
theorem k_L_types_6 (ca : Nat → ClassId) : k_L_types ca 6 = i_aload 0 7 := rfl
theorem k_L_types_7 (ca : Nat → ClassId) : k_L_types ca 7 = i_callV 7 0 0 0 0 0 (sp_X7_clearText ca) 10 := rfl
theorem k_L_types_10 (ca : Nat → ClassId) : k_L_types ca 10 = i_if (fun x => x < 0) 17 13 := rfl
theorem k_L_types_13 (ca : Nat → ClassId) : k_L_types ca 13 = i_push (.int 1) 14 := rfl
theorem k_L_types_14 (ca : Nat → ClassId) : k_L_types ca 14 = i_goto 18 := rfl
theorem k_L_types_17 (ca : Nat → ClassId) : k_L_types ca 17 = i_push (.int 0) 18 := rfl
theorem k_L_types_18 (ca : Nat → ClassId) : k_L_types ca 18 = i_istore 3 19 := rfl
theorem k_L_types_19 (ca : Nat → ClassId) : k_L_types ca 19 = i_push (.int 0) 20 := rfl
theorem k_L_types_20 (ca : Nat → ClassId) : k_L_types ca 20 = i_istore 4 22 := rfl
theorem k_L_types_22 (ca : Nat → ClassId) : k_L_types ca 22 = i_iload 4 24 := rfl
theorem k_L_types_24 (ca : Nat → ClassId) : k_L_types ca 24 = i_iload 2 25 := rfl
theorem k_L_types_25 (ca : Nat → ClassId) : k_L_types ca 25 = i_icmp (fun x y => y ≤ x) 140 28 := rfl
theorem k_L_types_28 (ca : Nat → ClassId) : k_L_types ca 28 = i_iload 1 29 := rfl
theorem k_L_types_29 (ca : Nat → ClassId) : k_L_types ca 29 = i_push (.int 3) 30 := rfl
theorem k_L_types_30 (ca : Nat → ClassId) : k_L_types ca 30 = i_push (.int 5) 31 := rfl
theorem k_L_types_31 (ca : Nat → ClassId) : k_L_types ca 31 = i_iload 4 33 := rfl
theorem k_L_types_33 (ca : Nat → ClassId) : k_L_types ca 33 = i_bin (fun x y => x * y) 34 := rfl
theorem k_L_types_34 (ca : Nat → ClassId) : k_L_types ca 34 = i_bin (fun x y => x + y) 35 := rfl
theorem k_L_types_35 (ca : Nat → ClassId) : k_L_types ca 35 = i_bin (fun x y => x >>> (y &&& 31)) 36 := rfl
theorem k_L_types_36 (ca : Nat → ClassId) : k_L_types ca 36 = i_istore 5 38 := rfl
theorem k_L_types_38 (ca : Nat → ClassId) : k_L_types ca 38 = i_iload 3 39 := rfl
theorem k_L_types_39 (ca : Nat → ClassId) : k_L_types ca 39 = i_if (fun x => x = 0) 132 42 := rfl
theorem k_L_types_42 (ca : Nat → ClassId) : k_L_types ca 42 = i_iload 4 44 := rfl
theorem k_L_types_44 (ca : Nat → ClassId) : k_L_types ca 44 = i_if (fun x => x = 0) 56 47 := rfl
theorem k_L_types_47 (ca : Nat → ClassId) : k_L_types ca 47 = i_aload 0 48 := rfl
theorem k_L_types_48 (ca : Nat → ClassId) : k_L_types ca 48 = i_push (.int 44) 50 := rfl
theorem k_L_types_50 (ca : Nat → ClassId) : k_L_types ca 50 = i_callV 7 1 0 0 0 0 (sp_X7_type ca) 53 := rfl
theorem k_L_types_53 (ca : Nat → ClassId) : k_L_types ca 53 = i_if (fun x => x ≤ 0) 132 56 := rfl
theorem k_L_types_56 (ca : Nat → ClassId) : k_L_types ca 56 = i_aload 0 57 := rfl
theorem k_L_types_57 (ca : Nat → ClassId) : k_L_types ca 57 = i_push (.int 49) 59 := rfl
theorem k_L_types_59 (ca : Nat → ClassId) : k_L_types ca 59 = i_iload 5 61 := rfl
theorem k_L_types_61 (ca : Nat → ClassId) : k_L_types ca 61 = i_push (.int 9) 63 := rfl
theorem k_L_types_63 (ca : Nat → ClassId) : k_L_types ca 63 = i_callS 2 0 0 0 0 (sp_L_low ca) 66 := rfl
theorem k_L_types_66 (ca : Nat → ClassId) : k_L_types ca 66 = i_bin (fun x y => x + y) 67 := rfl
theorem k_L_types_67 (ca : Nat → ClassId) : k_L_types ca 67 = i_callV 7 1 0 0 0 0 (sp_X7_type ca) 70 := rfl
theorem k_L_types_70 (ca : Nat → ClassId) : k_L_types ca 70 = i_if (fun x => x ≤ 0) 132 73 := rfl
theorem k_L_types_73 (ca : Nat → ClassId) : k_L_types ca 73 = i_aload 0 74 := rfl
theorem k_L_types_74 (ca : Nat → ClassId) : k_L_types ca 74 = i_push (.int 97) 76 := rfl
theorem k_L_types_76 (ca : Nat → ClassId) : k_L_types ca 76 = i_iload 5 78 := rfl
theorem k_L_types_78 (ca : Nat → ClassId) : k_L_types ca 78 = i_push (.int 2) 79 := rfl
theorem k_L_types_79 (ca : Nat → ClassId) : k_L_types ca 79 = i_bin (fun x y => x >>> (y &&& 31)) 80 := rfl
theorem k_L_types_80 (ca : Nat → ClassId) : k_L_types ca 80 = i_push (.int 6) 82 := rfl
theorem k_L_types_82 (ca : Nat → ClassId) : k_L_types ca 82 = i_callS 2 0 0 0 0 (sp_L_low ca) 85 := rfl
theorem k_L_types_85 (ca : Nat → ClassId) : k_L_types ca 85 = i_bin (fun x y => x + y) 86 := rfl
theorem k_L_types_86 (ca : Nat → ClassId) : k_L_types ca 86 = i_callV 7 1 0 0 0 0 (sp_X7_type ca) 89 := rfl
theorem k_L_types_89 (ca : Nat → ClassId) : k_L_types ca 89 = i_if (fun x => x ≤ 0) 132 92 := rfl
theorem k_L_types_92 (ca : Nat → ClassId) : k_L_types ca 92 = i_aload 0 93 := rfl
theorem k_L_types_93 (ca : Nat → ClassId) : k_L_types ca 93 = i_push (.int 97) 95 := rfl
theorem k_L_types_95 (ca : Nat → ClassId) : k_L_types ca 95 = i_iload 5 97 := rfl
theorem k_L_types_97 (ca : Nat → ClassId) : k_L_types ca 97 = i_push (.int 4) 98 := rfl
theorem k_L_types_98 (ca : Nat → ClassId) : k_L_types ca 98 = i_bin (fun x y => x >>> (y &&& 31)) 99 := rfl
theorem k_L_types_99 (ca : Nat → ClassId) : k_L_types ca 99 = i_iload 1 100 := rfl
theorem k_L_types_100 (ca : Nat → ClassId) : k_L_types ca 100 = i_push (.int 25) 102 := rfl
theorem k_L_types_102 (ca : Nat → ClassId) : k_L_types ca 102 = i_bin (fun x y => x >>> (y &&& 31)) 103 := rfl
theorem k_L_types_103 (ca : Nat → ClassId) : k_L_types ca 103 = i_push (.int 8) 105 := rfl
theorem k_L_types_105 (ca : Nat → ClassId) : k_L_types ca 105 = i_callS 2 0 0 0 0 (sp_L_low ca) 108 := rfl
theorem k_L_types_108 (ca : Nat → ClassId) : k_L_types ca 108 = i_if (fun x => ¬ x = 0) 116 111 := rfl
theorem k_L_types_111 (ca : Nat → ClassId) : k_L_types ca 111 = i_push (.int 7) 113 := rfl
theorem k_L_types_113 (ca : Nat → ClassId) : k_L_types ca 113 = i_goto 118 := rfl
theorem k_L_types_116 (ca : Nat → ClassId) : k_L_types ca 116 = i_push (.int 6) 118 := rfl
theorem k_L_types_118 (ca : Nat → ClassId) : k_L_types ca 118 = i_callS 2 0 0 0 0 (sp_L_low ca) 121 := rfl
theorem k_L_types_121 (ca : Nat → ClassId) : k_L_types ca 121 = i_bin (fun x y => x + y) 122 := rfl
theorem k_L_types_122 (ca : Nat → ClassId) : k_L_types ca 122 = i_callV 7 1 0 0 0 0 (sp_X7_type ca) 125 := rfl
theorem k_L_types_125 (ca : Nat → ClassId) : k_L_types ca 125 = i_if (fun x => x ≤ 0) 132 128 := rfl
theorem k_L_types_128 (ca : Nat → ClassId) : k_L_types ca 128 = i_push (.int 1) 129 := rfl
theorem k_L_types_129 (ca : Nat → ClassId) : k_L_types ca 129 = i_goto 133 := rfl
theorem k_L_types_132 (ca : Nat → ClassId) : k_L_types ca 132 = i_push (.int 0) 133 := rfl
theorem k_L_types_133 (ca : Nat → ClassId) : k_L_types ca 133 = i_istore 3 134 := rfl
theorem k_L_types_134 (ca : Nat → ClassId) : k_L_types ca 134 = i_iinc 4 1 137 := rfl
theorem k_L_types_137 (ca : Nat → ClassId) : k_L_types ca 137 = i_goto 22 := rfl
theorem k_L_types_140 (ca : Nat → ClassId) : k_L_types ca 140 = i_iload 3 141 := rfl
theorem k_L_types_141 (ca : Nat → ClassId) : k_L_types ca 141 = i_if (fun x => x = 0) 169 144 := rfl
theorem k_L_types_144 (ca : Nat → ClassId) : k_L_types ca 144 = i_iload 1 145 := rfl
theorem k_L_types_145 (ca : Nat → ClassId) : k_L_types ca 145 = i_push (.int 23) 147 := rfl
theorem k_L_types_147 (ca : Nat → ClassId) : k_L_types ca 147 = i_bin (fun x y => x >>> (y &&& 31)) 148 := rfl
theorem k_L_types_148 (ca : Nat → ClassId) : k_L_types ca 148 = i_push (.int 7) 150 := rfl
theorem k_L_types_150 (ca : Nat → ClassId) : k_L_types ca 150 = i_callS 2 0 0 0 0 (sp_L_low ca) 153 := rfl
theorem k_L_types_153 (ca : Nat → ClassId) : k_L_types ca 153 = i_if (fun x => 0 < x) 165 156 := rfl
theorem k_L_types_156 (ca : Nat → ClassId) : k_L_types ca 156 = i_aload 0 157 := rfl
theorem k_L_types_157 (ca : Nat → ClassId) : k_L_types ca 157 = i_push (.int 44) 159 := rfl
theorem k_L_types_159 (ca : Nat → ClassId) : k_L_types ca 159 = i_callV 7 1 0 0 0 0 (sp_X7_type ca) 162 := rfl
theorem k_L_types_162 (ca : Nat → ClassId) : k_L_types ca 162 = i_if (fun x => x ≤ 0) 169 165 := rfl
theorem k_L_types_165 (ca : Nat → ClassId) : k_L_types ca 165 = i_push (.int 1) 166 := rfl
theorem k_L_types_166 (ca : Nat → ClassId) : k_L_types ca 166 = i_goto 170 := rfl
theorem k_L_types_169 (ca : Nat → ClassId) : k_L_types ca 169 = i_push (.int 0) 170 := rfl
theorem k_L_types_170 (ca : Nat → ClassId) : k_L_types ca 170 = i_zret := rfl
theorem low_nI (v m : Int32) {M : Nat} (hm : m = nI M) (h0 : 0 < M) (hM : M < 2 ^ 31) : ∃ r, r < M ∧ lowI v m = nI r := by
  rw [hm]
  exact lowI_n v h0 hM
theorem chr_in {a r : Nat} (h1 : 32 ≤ a) (h2 : a + r ≤ 126) : isIn (nI a + nI r) 32 126 = true := by
  rw [nI_add]
  refine isIn_z.mpr ?_
  rw [nI_toInt (by omega)]
  have c1 : (32 : Int32).toInt = 32 := rfl
  have c2 : (126 : Int32).toInt = 126 := rfl
  omega
theorem pos_s {m : Nat} (h : m < 60) : ¬ nI (m + 1) ≤ 0 := by
  rw [Int32.le_iff_toInt_le, nI_toInt (by omega)]
  have c : (0 : Int32).toInt = 0 := rfl
  omega
set_option maxHeartbeats 4000000 in
set_option maxRecDepth 20000 in
theorem ok_L_types (l : Launch) (D : va_G) (ca : Nat → ClassId) : OkAll l D ca yL_types cL_types 6 (some .boolean) 2 0 0 (sp_L_types ca) := by
  intro av h post hs
  obtain ⟨g, B, s, ss, T, n, f, x, rfl, H, hs⟩ := hs
  obtain ⟨fs, c7⟩ := H.cell
  have n60 := H.n60
  have z5 : ¬ (5 : Int32) = 0 := by decide
  have z9 : ¬ (9 : Int32) = 0 := by decide
  have z6 : ¬ (6 : Int32) = 0 := by decide
  have z7 : ¬ (7 : Int32) = 0 := by decide
  have z8 : ¬ (8 : Int32) = 0 := by decide
  refine okM_of t_L_types (by decide +kernel) (c1_ref (c1_int c1_nil)) (Nat.le_of_ble_eq_true rfl) ?_
  intro K go
  have fin : ∀ (C : Int32) (i4 : Int32) (m5 : Option Value) (m : Nat) (f1 : Nat → Int32) (h1 : PH), m < 60 → LC ca h1 g B s ss T m f1 → K 0 0 140 [some (.ref (g 0)), some (.int x), some (.int C), some (.int 1), some (.int i4), m5] [] h1 := by
    intro C i4 m5 m f1 h1 hm H1
    obtain ⟨fs1, c71⟩ := H1.cell
    by_cases q : (0 : Int32) < lowI (x >>> (23 &&& 31)) 7
    · have k0 := hs h1 m f1 H1
      refine goN go (stp []) 160 _ _ _ _ _ _ (fun F hF hF0 => ?_)
      simp only [hF, hF0, ite_not, i_push, i_iload, i_lload, i_aload, i_istore, i_astore, i_lstore, i_iinc, i_bin, i_dv, i_un, i_lbin, i_lsh, i_i2l, i_l2i, i_lcmp, i_dup, i_dup2, i_pop, i_if, i_icmp, i_goto, swG, i_sw, i_getf, i_puti, i_putz, i_putr, i_ald, i_lald, i_aald, i_ast, i_last, i_aast, i_alen, i_new, i_newi, i_newl, i_newq, i_oinit, i_ret, i_zret, i_lret, i_vret, catS, tk, rpush, isO, i_m1, i_m2, i_acopy, i_callV, i_callS, KRet, lget, lput, lputL, lcl0, isL, lv0, List.map_cons, List.map_nil, List.length_cons, List.length_nil, List.cons_append, List.nil_append, Nat.reduceAdd, Nat.reduceSub, Nat.reduceLeDiff, List.replicate_succ, List.replicate_zero, List.getElem?_cons_succ, List.getElem?_cons_zero, List.set_cons_succ, List.set_cons_zero, true_and, and_true, if_true, if_false, ↓reduceIte, Nat.le_refl, Value.category, va_up_app, eq_self, stp, Nat.reduceBEq, Bool.or_false, Bool.false_or, Bool.true_or, Bool.or_true, or_true, true_or, bx_uu, implies_true, true_implies, not_true, not_false_eq_true, false_implies, and_self, Nat.reduceLT, Int32.reduceAdd, Int32.reduceSub, Int32.reduceMul, Int32.reduceLE, Int32.reduceLT, Int32.reduceToNatClampNeg, va_rf_some, Bool.false_eq_true, k_L_types_0 ca, k_L_types_1 ca, k_L_types_2 ca, k_L_types_5 ca, k_L_types_6 ca, k_L_types_7 ca, k_L_types_10 ca, k_L_types_13 ca, k_L_types_14 ca, k_L_types_17 ca, k_L_types_18 ca, k_L_types_19 ca, k_L_types_20 ca, k_L_types_22 ca, k_L_types_24 ca, k_L_types_25 ca, k_L_types_28 ca, k_L_types_29 ca, k_L_types_30 ca, k_L_types_31 ca, k_L_types_33 ca, k_L_types_34 ca, k_L_types_35 ca, k_L_types_36 ca, k_L_types_38 ca, k_L_types_39 ca, k_L_types_42 ca, k_L_types_44 ca, k_L_types_47 ca, k_L_types_48 ca, k_L_types_50 ca, k_L_types_53 ca, k_L_types_56 ca, k_L_types_57 ca, k_L_types_59 ca, k_L_types_61 ca, k_L_types_63 ca, k_L_types_66 ca, k_L_types_67 ca, k_L_types_70 ca, k_L_types_73 ca, k_L_types_74 ca, k_L_types_76 ca, k_L_types_78 ca, k_L_types_79 ca, k_L_types_80 ca, k_L_types_82 ca, k_L_types_85 ca, k_L_types_86 ca, k_L_types_89 ca, k_L_types_92 ca, k_L_types_93 ca, k_L_types_95 ca, k_L_types_97 ca, k_L_types_98 ca, k_L_types_99 ca, k_L_types_100 ca, k_L_types_102 ca, k_L_types_103 ca, k_L_types_105 ca, k_L_types_108 ca, k_L_types_111 ca, k_L_types_113 ca, k_L_types_116 ca, k_L_types_118 ca, k_L_types_121 ca, k_L_types_122 ca, k_L_types_125 ca, k_L_types_128 ca, k_L_types_129 ca, k_L_types_132 ca, k_L_types_133 ca, k_L_types_134 ca, k_L_types_137 ca, k_L_types_140 ca, k_L_types_141 ca, k_L_types_144 ca, k_L_types_145 ca, k_L_types_147 ca, k_L_types_148 ca, k_L_types_150 ca, k_L_types_153 ca, k_L_types_156 ca, k_L_types_157 ca, k_L_types_159 ca, k_L_types_162 ca, k_L_types_165 ca, k_L_types_166 ca, k_L_types_169 ca, k_L_types_170 ca, sp_L_low, z7, q, one0]
      try clear hF hF0 F
      exact k0
    · refine goN go (stp [162]) 160 _ _ _ _ _ _ (fun F hF hF0 => ?_)
      simp only [hF, hF0, ite_not, i_push, i_iload, i_lload, i_aload, i_istore, i_astore, i_lstore, i_iinc, i_bin, i_dv, i_un, i_lbin, i_lsh, i_i2l, i_l2i, i_lcmp, i_dup, i_dup2, i_pop, i_if, i_icmp, i_goto, swG, i_sw, i_getf, i_puti, i_putz, i_putr, i_ald, i_lald, i_aald, i_ast, i_last, i_aast, i_alen, i_new, i_newi, i_newl, i_newq, i_oinit, i_ret, i_zret, i_lret, i_vret, catS, tk, rpush, isO, i_m1, i_m2, i_acopy, i_callV, i_callS, KRet, lget, lput, lputL, lcl0, isL, lv0, List.map_cons, List.map_nil, List.length_cons, List.length_nil, List.cons_append, List.nil_append, Nat.reduceAdd, Nat.reduceSub, Nat.reduceLeDiff, List.replicate_succ, List.replicate_zero, List.getElem?_cons_succ, List.getElem?_cons_zero, List.set_cons_succ, List.set_cons_zero, true_and, and_true, if_true, if_false, ↓reduceIte, Nat.le_refl, Value.category, va_up_app, eq_self, stp, Nat.reduceBEq, Bool.or_false, Bool.false_or, Bool.true_or, Bool.or_true, or_true, true_or, bx_uu, implies_true, true_implies, not_true, not_false_eq_true, false_implies, and_self, Nat.reduceLT, Int32.reduceAdd, Int32.reduceSub, Int32.reduceMul, Int32.reduceLE, Int32.reduceLT, Int32.reduceToNatClampNeg, va_rf_some, Bool.false_eq_true, k_L_types_0 ca, k_L_types_1 ca, k_L_types_2 ca, k_L_types_5 ca, k_L_types_6 ca, k_L_types_7 ca, k_L_types_10 ca, k_L_types_13 ca, k_L_types_14 ca, k_L_types_17 ca, k_L_types_18 ca, k_L_types_19 ca, k_L_types_20 ca, k_L_types_22 ca, k_L_types_24 ca, k_L_types_25 ca, k_L_types_28 ca, k_L_types_29 ca, k_L_types_30 ca, k_L_types_31 ca, k_L_types_33 ca, k_L_types_34 ca, k_L_types_35 ca, k_L_types_36 ca, k_L_types_38 ca, k_L_types_39 ca, k_L_types_42 ca, k_L_types_44 ca, k_L_types_47 ca, k_L_types_48 ca, k_L_types_50 ca, k_L_types_53 ca, k_L_types_56 ca, k_L_types_57 ca, k_L_types_59 ca, k_L_types_61 ca, k_L_types_63 ca, k_L_types_66 ca, k_L_types_67 ca, k_L_types_70 ca, k_L_types_73 ca, k_L_types_74 ca, k_L_types_76 ca, k_L_types_78 ca, k_L_types_79 ca, k_L_types_80 ca, k_L_types_82 ca, k_L_types_85 ca, k_L_types_86 ca, k_L_types_89 ca, k_L_types_92 ca, k_L_types_93 ca, k_L_types_95 ca, k_L_types_97 ca, k_L_types_98 ca, k_L_types_99 ca, k_L_types_100 ca, k_L_types_102 ca, k_L_types_103 ca, k_L_types_105 ca, k_L_types_108 ca, k_L_types_111 ca, k_L_types_113 ca, k_L_types_116 ca, k_L_types_118 ca, k_L_types_121 ca, k_L_types_122 ca, k_L_types_125 ca, k_L_types_128 ca, k_L_types_129 ca, k_L_types_132 ca, k_L_types_133 ca, k_L_types_134 ca, k_L_types_137 ca, k_L_types_140 ca, k_L_types_141 ca, k_L_types_144 ca, k_L_types_145 ca, k_L_types_147 ca, k_L_types_148 ca, k_L_types_150 ca, k_L_types_153 ca, k_L_types_156 ca, k_L_types_157 ca, k_L_types_159 ca, k_L_types_162 ca, k_L_types_165 ca, k_L_types_166 ca, k_L_types_169 ca, k_L_types_170 ca, sp_L_low, z7, q, one0, c71]
      try clear hF hF0 F
      refine H1.type (by decide) hm (fun h2 f2 H2 => ?_)
      show K 0 0 162 _ [.int (nI (m + 1))] h2
      have p := pos_s hm
      have k0 := hs h2 _ f2 H2
      refine goN go (stp []) 160 _ _ _ _ _ _ (fun F hF hF0 => ?_)
      simp only [hF, hF0, ite_not, i_push, i_iload, i_lload, i_aload, i_istore, i_astore, i_lstore, i_iinc, i_bin, i_dv, i_un, i_lbin, i_lsh, i_i2l, i_l2i, i_lcmp, i_dup, i_dup2, i_pop, i_if, i_icmp, i_goto, swG, i_sw, i_getf, i_puti, i_putz, i_putr, i_ald, i_lald, i_aald, i_ast, i_last, i_aast, i_alen, i_new, i_newi, i_newl, i_newq, i_oinit, i_ret, i_zret, i_lret, i_vret, catS, tk, rpush, isO, i_m1, i_m2, i_acopy, i_callV, i_callS, KRet, lget, lput, lputL, lcl0, isL, lv0, List.map_cons, List.map_nil, List.length_cons, List.length_nil, List.cons_append, List.nil_append, Nat.reduceAdd, Nat.reduceSub, Nat.reduceLeDiff, List.replicate_succ, List.replicate_zero, List.getElem?_cons_succ, List.getElem?_cons_zero, List.set_cons_succ, List.set_cons_zero, true_and, and_true, if_true, if_false, ↓reduceIte, Nat.le_refl, Value.category, va_up_app, eq_self, stp, Nat.reduceBEq, Bool.or_false, Bool.false_or, Bool.true_or, Bool.or_true, or_true, true_or, bx_uu, implies_true, true_implies, not_true, not_false_eq_true, false_implies, and_self, Nat.reduceLT, Int32.reduceAdd, Int32.reduceSub, Int32.reduceMul, Int32.reduceLE, Int32.reduceLT, Int32.reduceToNatClampNeg, va_rf_some, Bool.false_eq_true, k_L_types_0 ca, k_L_types_1 ca, k_L_types_2 ca, k_L_types_5 ca, k_L_types_6 ca, k_L_types_7 ca, k_L_types_10 ca, k_L_types_13 ca, k_L_types_14 ca, k_L_types_17 ca, k_L_types_18 ca, k_L_types_19 ca, k_L_types_20 ca, k_L_types_22 ca, k_L_types_24 ca, k_L_types_25 ca, k_L_types_28 ca, k_L_types_29 ca, k_L_types_30 ca, k_L_types_31 ca, k_L_types_33 ca, k_L_types_34 ca, k_L_types_35 ca, k_L_types_36 ca, k_L_types_38 ca, k_L_types_39 ca, k_L_types_42 ca, k_L_types_44 ca, k_L_types_47 ca, k_L_types_48 ca, k_L_types_50 ca, k_L_types_53 ca, k_L_types_56 ca, k_L_types_57 ca, k_L_types_59 ca, k_L_types_61 ca, k_L_types_63 ca, k_L_types_66 ca, k_L_types_67 ca, k_L_types_70 ca, k_L_types_73 ca, k_L_types_74 ca, k_L_types_76 ca, k_L_types_78 ca, k_L_types_79 ca, k_L_types_80 ca, k_L_types_82 ca, k_L_types_85 ca, k_L_types_86 ca, k_L_types_89 ca, k_L_types_92 ca, k_L_types_93 ca, k_L_types_95 ca, k_L_types_97 ca, k_L_types_98 ca, k_L_types_99 ca, k_L_types_100 ca, k_L_types_102 ca, k_L_types_103 ca, k_L_types_105 ca, k_L_types_108 ca, k_L_types_111 ca, k_L_types_113 ca, k_L_types_116 ca, k_L_types_118 ca, k_L_types_121 ca, k_L_types_122 ca, k_L_types_125 ca, k_L_types_128 ca, k_L_types_129 ca, k_L_types_132 ca, k_L_types_133 ca, k_L_types_134 ca, k_L_types_137 ca, k_L_types_140 ca, k_L_types_141 ca, k_L_types_144 ca, k_L_types_145 ca, k_L_types_147 ca, k_L_types_148 ca, k_L_types_150 ca, k_L_types_153 ca, k_L_types_156 ca, k_L_types_157 ca, k_L_types_159 ca, k_L_types_162 ca, k_L_types_165 ca, k_L_types_166 ca, k_L_types_169 ca, k_L_types_170 ca, p, one0]
      try clear hF hF0 F
      exact k0
  have loop : ∀ C : Nat, C < 5 → ∀ r k, k + r = C → ∀ (m5 : Option Value) (m : Nat) (f1 : Nat → Int32) (h1 : PH), m ≤ 4 * k → LC ca h1 g B s ss T m f1 → K 0 0 22 [some (.ref (g 0)), some (.int x), some (.int (nI C)), some (.int 1), some (.int (nI k)), m5] [] h1 := by
    intro C hC r
    induction r with
    | zero =>
      intro k hk m5 m f1 h1 hm H1
      have ek : k = C := by omega
      subst ek
      have e1 : (nI k ≤ nI k) = True := ge_t
      have k0 := fin (nI k) (nI k) m5 m f1 h1 (by omega) H1
      refine goN go (stp [140]) 160 _ _ _ _ _ _ (fun F hF hF0 => ?_)
      simp only [hF, hF0, ite_not, i_push, i_iload, i_lload, i_aload, i_istore, i_astore, i_lstore, i_iinc, i_bin, i_dv, i_un, i_lbin, i_lsh, i_i2l, i_l2i, i_lcmp, i_dup, i_dup2, i_pop, i_if, i_icmp, i_goto, swG, i_sw, i_getf, i_puti, i_putz, i_putr, i_ald, i_lald, i_aald, i_ast, i_last, i_aast, i_alen, i_new, i_newi, i_newl, i_newq, i_oinit, i_ret, i_zret, i_lret, i_vret, catS, tk, rpush, isO, i_m1, i_m2, i_acopy, i_callV, i_callS, KRet, lget, lput, lputL, lcl0, isL, lv0, List.map_cons, List.map_nil, List.length_cons, List.length_nil, List.cons_append, List.nil_append, Nat.reduceAdd, Nat.reduceSub, Nat.reduceLeDiff, List.replicate_succ, List.replicate_zero, List.getElem?_cons_succ, List.getElem?_cons_zero, List.set_cons_succ, List.set_cons_zero, true_and, and_true, if_true, if_false, ↓reduceIte, Nat.le_refl, Value.category, va_up_app, eq_self, stp, Nat.reduceBEq, Bool.or_false, Bool.false_or, Bool.true_or, Bool.or_true, or_true, true_or, bx_uu, implies_true, true_implies, not_true, not_false_eq_true, false_implies, and_self, Nat.reduceLT, Int32.reduceAdd, Int32.reduceSub, Int32.reduceMul, Int32.reduceLE, Int32.reduceLT, Int32.reduceToNatClampNeg, va_rf_some, Bool.false_eq_true, k_L_types_0 ca, k_L_types_1 ca, k_L_types_2 ca, k_L_types_5 ca, k_L_types_6 ca, k_L_types_7 ca, k_L_types_10 ca, k_L_types_13 ca, k_L_types_14 ca, k_L_types_17 ca, k_L_types_18 ca, k_L_types_19 ca, k_L_types_20 ca, k_L_types_22 ca, k_L_types_24 ca, k_L_types_25 ca, k_L_types_28 ca, k_L_types_29 ca, k_L_types_30 ca, k_L_types_31 ca, k_L_types_33 ca, k_L_types_34 ca, k_L_types_35 ca, k_L_types_36 ca, k_L_types_38 ca, k_L_types_39 ca, k_L_types_42 ca, k_L_types_44 ca, k_L_types_47 ca, k_L_types_48 ca, k_L_types_50 ca, k_L_types_53 ca, k_L_types_56 ca, k_L_types_57 ca, k_L_types_59 ca, k_L_types_61 ca, k_L_types_63 ca, k_L_types_66 ca, k_L_types_67 ca, k_L_types_70 ca, k_L_types_73 ca, k_L_types_74 ca, k_L_types_76 ca, k_L_types_78 ca, k_L_types_79 ca, k_L_types_80 ca, k_L_types_82 ca, k_L_types_85 ca, k_L_types_86 ca, k_L_types_89 ca, k_L_types_92 ca, k_L_types_93 ca, k_L_types_95 ca, k_L_types_97 ca, k_L_types_98 ca, k_L_types_99 ca, k_L_types_100 ca, k_L_types_102 ca, k_L_types_103 ca, k_L_types_105 ca, k_L_types_108 ca, k_L_types_111 ca, k_L_types_113 ca, k_L_types_116 ca, k_L_types_118 ca, k_L_types_121 ca, k_L_types_122 ca, k_L_types_125 ca, k_L_types_128 ca, k_L_types_129 ca, k_L_types_132 ca, k_L_types_133 ca, k_L_types_134 ca, k_L_types_137 ca, k_L_types_140 ca, k_L_types_141 ca, k_L_types_144 ca, k_L_types_145 ca, k_L_types_147 ca, k_L_types_148 ca, k_L_types_150 ca, k_L_types_153 ca, k_L_types_156 ca, k_L_types_157 ca, k_L_types_159 ca, k_L_types_162 ca, k_L_types_165 ca, k_L_types_166 ca, k_L_types_169 ca, k_L_types_170 ca, e1]
      try clear hF hF0 F
      exact k0
    | succ r ih =>
      intro k hk m5 m f1 h1 hm H1
      have e1 : (nI C ≤ nI k) = False := ge_f (by omega) (by omega)
      have ek0 : (nI k = 0) = (k = 0) := nIe (b := 0) (by omega) (by decide)
      have rest : ∀ (m : Nat) (f1 : Nat → Int32) (h1 : PH), m ≤ 4 * k + 1 → LC ca h1 g B s ss T m f1 → K 0 0 56 [some (.ref (g 0)), some (.int x), some (.int (nI C)), some (.int 1), some (.int (nI k)), some (.int (x >>> (3 + 5 * nI k &&& 31)))] [] h1 := by
        intro m f1 h1 hm H1
        obtain ⟨fs1, c71⟩ := H1.cell
        generalize x >>> (3 + 5 * nI k &&& 31) = y
        obtain ⟨r1, hr1, er1⟩ := low_nI y 9 (M := 9) rfl (by decide) (by decide)
        obtain ⟨r2, hr2, er2⟩ := low_nI (y >>> (2 &&& 31)) 6 (M := 6) rfl (by decide) (by decide)
        refine goN go (stp [70]) 160 _ _ _ _ _ _ (fun F hF hF0 => ?_)
        simp only [hF, hF0, ite_not, i_push, i_iload, i_lload, i_aload, i_istore, i_astore, i_lstore, i_iinc, i_bin, i_dv, i_un, i_lbin, i_lsh, i_i2l, i_l2i, i_lcmp, i_dup, i_dup2, i_pop, i_if, i_icmp, i_goto, swG, i_sw, i_getf, i_puti, i_putz, i_putr, i_ald, i_lald, i_aald, i_ast, i_last, i_aast, i_alen, i_new, i_newi, i_newl, i_newq, i_oinit, i_ret, i_zret, i_lret, i_vret, catS, tk, rpush, isO, i_m1, i_m2, i_acopy, i_callV, i_callS, KRet, lget, lput, lputL, lcl0, isL, lv0, List.map_cons, List.map_nil, List.length_cons, List.length_nil, List.cons_append, List.nil_append, Nat.reduceAdd, Nat.reduceSub, Nat.reduceLeDiff, List.replicate_succ, List.replicate_zero, List.getElem?_cons_succ, List.getElem?_cons_zero, List.set_cons_succ, List.set_cons_zero, true_and, and_true, if_true, if_false, ↓reduceIte, Nat.le_refl, Value.category, va_up_app, eq_self, stp, Nat.reduceBEq, Bool.or_false, Bool.false_or, Bool.true_or, Bool.or_true, or_true, true_or, bx_uu, implies_true, true_implies, not_true, not_false_eq_true, false_implies, and_self, Nat.reduceLT, Int32.reduceAdd, Int32.reduceSub, Int32.reduceMul, Int32.reduceLE, Int32.reduceLT, Int32.reduceToNatClampNeg, va_rf_some, Bool.false_eq_true, k_L_types_0 ca, k_L_types_1 ca, k_L_types_2 ca, k_L_types_5 ca, k_L_types_6 ca, k_L_types_7 ca, k_L_types_10 ca, k_L_types_13 ca, k_L_types_14 ca, k_L_types_17 ca, k_L_types_18 ca, k_L_types_19 ca, k_L_types_20 ca, k_L_types_22 ca, k_L_types_24 ca, k_L_types_25 ca, k_L_types_28 ca, k_L_types_29 ca, k_L_types_30 ca, k_L_types_31 ca, k_L_types_33 ca, k_L_types_34 ca, k_L_types_35 ca, k_L_types_36 ca, k_L_types_38 ca, k_L_types_39 ca, k_L_types_42 ca, k_L_types_44 ca, k_L_types_47 ca, k_L_types_48 ca, k_L_types_50 ca, k_L_types_53 ca, k_L_types_56 ca, k_L_types_57 ca, k_L_types_59 ca, k_L_types_61 ca, k_L_types_63 ca, k_L_types_66 ca, k_L_types_67 ca, k_L_types_70 ca, k_L_types_73 ca, k_L_types_74 ca, k_L_types_76 ca, k_L_types_78 ca, k_L_types_79 ca, k_L_types_80 ca, k_L_types_82 ca, k_L_types_85 ca, k_L_types_86 ca, k_L_types_89 ca, k_L_types_92 ca, k_L_types_93 ca, k_L_types_95 ca, k_L_types_97 ca, k_L_types_98 ca, k_L_types_99 ca, k_L_types_100 ca, k_L_types_102 ca, k_L_types_103 ca, k_L_types_105 ca, k_L_types_108 ca, k_L_types_111 ca, k_L_types_113 ca, k_L_types_116 ca, k_L_types_118 ca, k_L_types_121 ca, k_L_types_122 ca, k_L_types_125 ca, k_L_types_128 ca, k_L_types_129 ca, k_L_types_132 ca, k_L_types_133 ca, k_L_types_134 ca, k_L_types_137 ca, k_L_types_140 ca, k_L_types_141 ca, k_L_types_144 ca, k_L_types_145 ca, k_L_types_147 ca, k_L_types_148 ca, k_L_types_150 ca, k_L_types_153 ca, k_L_types_156 ca, k_L_types_157 ca, k_L_types_159 ca, k_L_types_162 ca, k_L_types_165 ca, k_L_types_166 ca, k_L_types_169 ca, k_L_types_170 ca, sp_L_low, z9, c71, er1]
        try clear hF hF0 F
        refine H1.type (chr_in (a := 49) (by omega) (by omega)) (by omega) (fun h2 f2 H2 => ?_)
        show K 0 0 70 _ [.int (nI (m + 1))] h2
        have p1 := pos_s (m := m) (by omega)
        obtain ⟨fs2, c72⟩ := H2.cell
        refine goN go (stp [89]) 160 _ _ _ _ _ _ (fun F hF hF0 => ?_)
        simp only [hF, hF0, ite_not, i_push, i_iload, i_lload, i_aload, i_istore, i_astore, i_lstore, i_iinc, i_bin, i_dv, i_un, i_lbin, i_lsh, i_i2l, i_l2i, i_lcmp, i_dup, i_dup2, i_pop, i_if, i_icmp, i_goto, swG, i_sw, i_getf, i_puti, i_putz, i_putr, i_ald, i_lald, i_aald, i_ast, i_last, i_aast, i_alen, i_new, i_newi, i_newl, i_newq, i_oinit, i_ret, i_zret, i_lret, i_vret, catS, tk, rpush, isO, i_m1, i_m2, i_acopy, i_callV, i_callS, KRet, lget, lput, lputL, lcl0, isL, lv0, List.map_cons, List.map_nil, List.length_cons, List.length_nil, List.cons_append, List.nil_append, Nat.reduceAdd, Nat.reduceSub, Nat.reduceLeDiff, List.replicate_succ, List.replicate_zero, List.getElem?_cons_succ, List.getElem?_cons_zero, List.set_cons_succ, List.set_cons_zero, true_and, and_true, if_true, if_false, ↓reduceIte, Nat.le_refl, Value.category, va_up_app, eq_self, stp, Nat.reduceBEq, Bool.or_false, Bool.false_or, Bool.true_or, Bool.or_true, or_true, true_or, bx_uu, implies_true, true_implies, not_true, not_false_eq_true, false_implies, and_self, Nat.reduceLT, Int32.reduceAdd, Int32.reduceSub, Int32.reduceMul, Int32.reduceLE, Int32.reduceLT, Int32.reduceToNatClampNeg, va_rf_some, Bool.false_eq_true, k_L_types_0 ca, k_L_types_1 ca, k_L_types_2 ca, k_L_types_5 ca, k_L_types_6 ca, k_L_types_7 ca, k_L_types_10 ca, k_L_types_13 ca, k_L_types_14 ca, k_L_types_17 ca, k_L_types_18 ca, k_L_types_19 ca, k_L_types_20 ca, k_L_types_22 ca, k_L_types_24 ca, k_L_types_25 ca, k_L_types_28 ca, k_L_types_29 ca, k_L_types_30 ca, k_L_types_31 ca, k_L_types_33 ca, k_L_types_34 ca, k_L_types_35 ca, k_L_types_36 ca, k_L_types_38 ca, k_L_types_39 ca, k_L_types_42 ca, k_L_types_44 ca, k_L_types_47 ca, k_L_types_48 ca, k_L_types_50 ca, k_L_types_53 ca, k_L_types_56 ca, k_L_types_57 ca, k_L_types_59 ca, k_L_types_61 ca, k_L_types_63 ca, k_L_types_66 ca, k_L_types_67 ca, k_L_types_70 ca, k_L_types_73 ca, k_L_types_74 ca, k_L_types_76 ca, k_L_types_78 ca, k_L_types_79 ca, k_L_types_80 ca, k_L_types_82 ca, k_L_types_85 ca, k_L_types_86 ca, k_L_types_89 ca, k_L_types_92 ca, k_L_types_93 ca, k_L_types_95 ca, k_L_types_97 ca, k_L_types_98 ca, k_L_types_99 ca, k_L_types_100 ca, k_L_types_102 ca, k_L_types_103 ca, k_L_types_105 ca, k_L_types_108 ca, k_L_types_111 ca, k_L_types_113 ca, k_L_types_116 ca, k_L_types_118 ca, k_L_types_121 ca, k_L_types_122 ca, k_L_types_125 ca, k_L_types_128 ca, k_L_types_129 ca, k_L_types_132 ca, k_L_types_133 ca, k_L_types_134 ca, k_L_types_137 ca, k_L_types_140 ca, k_L_types_141 ca, k_L_types_144 ca, k_L_types_145 ca, k_L_types_147 ca, k_L_types_148 ca, k_L_types_150 ca, k_L_types_153 ca, k_L_types_156 ca, k_L_types_157 ca, k_L_types_159 ca, k_L_types_162 ca, k_L_types_165 ca, k_L_types_166 ca, k_L_types_169 ca, k_L_types_170 ca, sp_L_low, z6, c72, er2, p1]
        try clear hF hF0 F
        refine H2.type (chr_in (a := 97) (by omega) (by omega)) (by omega) (fun h3 f3 H3 => ?_)
        show K 0 0 89 _ [.int (nI (m + 1 + 1))] h3
        have p2 := pos_s (m := m + 1) (by omega)
        obtain ⟨fs3, c73⟩ := H3.cell
        have k0 := fun f4 h4 H4 => ih (k + 1) (by omega) (some (.int y)) (m + 1 + 1 + 1) f4 h4 (by omega) H4
        have p3 := pos_s (m := m + 1 + 1) (by omega)
        by_cases q : lowI (x >>> (25 &&& 31)) 8 = 0
        · obtain ⟨r3, hr3, er3⟩ := low_nI (y >>> (4 &&& 31)) 7 (M := 7) rfl (by decide) (by decide)
          refine goN go (stp [125]) 160 _ _ _ _ _ _ (fun F hF hF0 => ?_)
          simp only [hF, hF0, ite_not, i_push, i_iload, i_lload, i_aload, i_istore, i_astore, i_lstore, i_iinc, i_bin, i_dv, i_un, i_lbin, i_lsh, i_i2l, i_l2i, i_lcmp, i_dup, i_dup2, i_pop, i_if, i_icmp, i_goto, swG, i_sw, i_getf, i_puti, i_putz, i_putr, i_ald, i_lald, i_aald, i_ast, i_last, i_aast, i_alen, i_new, i_newi, i_newl, i_newq, i_oinit, i_ret, i_zret, i_lret, i_vret, catS, tk, rpush, isO, i_m1, i_m2, i_acopy, i_callV, i_callS, KRet, lget, lput, lputL, lcl0, isL, lv0, List.map_cons, List.map_nil, List.length_cons, List.length_nil, List.cons_append, List.nil_append, Nat.reduceAdd, Nat.reduceSub, Nat.reduceLeDiff, List.replicate_succ, List.replicate_zero, List.getElem?_cons_succ, List.getElem?_cons_zero, List.set_cons_succ, List.set_cons_zero, true_and, and_true, if_true, if_false, ↓reduceIte, Nat.le_refl, Value.category, va_up_app, eq_self, stp, Nat.reduceBEq, Bool.or_false, Bool.false_or, Bool.true_or, Bool.or_true, or_true, true_or, bx_uu, implies_true, true_implies, not_true, not_false_eq_true, false_implies, and_self, Nat.reduceLT, Int32.reduceAdd, Int32.reduceSub, Int32.reduceMul, Int32.reduceLE, Int32.reduceLT, Int32.reduceToNatClampNeg, va_rf_some, Bool.false_eq_true, k_L_types_0 ca, k_L_types_1 ca, k_L_types_2 ca, k_L_types_5 ca, k_L_types_6 ca, k_L_types_7 ca, k_L_types_10 ca, k_L_types_13 ca, k_L_types_14 ca, k_L_types_17 ca, k_L_types_18 ca, k_L_types_19 ca, k_L_types_20 ca, k_L_types_22 ca, k_L_types_24 ca, k_L_types_25 ca, k_L_types_28 ca, k_L_types_29 ca, k_L_types_30 ca, k_L_types_31 ca, k_L_types_33 ca, k_L_types_34 ca, k_L_types_35 ca, k_L_types_36 ca, k_L_types_38 ca, k_L_types_39 ca, k_L_types_42 ca, k_L_types_44 ca, k_L_types_47 ca, k_L_types_48 ca, k_L_types_50 ca, k_L_types_53 ca, k_L_types_56 ca, k_L_types_57 ca, k_L_types_59 ca, k_L_types_61 ca, k_L_types_63 ca, k_L_types_66 ca, k_L_types_67 ca, k_L_types_70 ca, k_L_types_73 ca, k_L_types_74 ca, k_L_types_76 ca, k_L_types_78 ca, k_L_types_79 ca, k_L_types_80 ca, k_L_types_82 ca, k_L_types_85 ca, k_L_types_86 ca, k_L_types_89 ca, k_L_types_92 ca, k_L_types_93 ca, k_L_types_95 ca, k_L_types_97 ca, k_L_types_98 ca, k_L_types_99 ca, k_L_types_100 ca, k_L_types_102 ca, k_L_types_103 ca, k_L_types_105 ca, k_L_types_108 ca, k_L_types_111 ca, k_L_types_113 ca, k_L_types_116 ca, k_L_types_118 ca, k_L_types_121 ca, k_L_types_122 ca, k_L_types_125 ca, k_L_types_128 ca, k_L_types_129 ca, k_L_types_132 ca, k_L_types_133 ca, k_L_types_134 ca, k_L_types_137 ca, k_L_types_140 ca, k_L_types_141 ca, k_L_types_144 ca, k_L_types_145 ca, k_L_types_147 ca, k_L_types_148 ca, k_L_types_150 ca, k_L_types_153 ca, k_L_types_156 ca, k_L_types_157 ca, k_L_types_159 ca, k_L_types_162 ca, k_L_types_165 ca, k_L_types_166 ca, k_L_types_169 ca, k_L_types_170 ca, sp_L_low, z8, z7, c73, er3, p2, q]
          try clear hF hF0 F
          refine H3.type (chr_in (a := 97) (by omega) (by omega)) (by omega) (fun h4 f4 H4 => ?_)
          show K 0 0 125 _ [.int (nI (m + 1 + 1 + 1))] h4
          refine goN go (stp [22]) 160 _ _ _ _ _ _ (fun F hF hF0 => ?_)
          simp only [hF, hF0, ite_not, i_push, i_iload, i_lload, i_aload, i_istore, i_astore, i_lstore, i_iinc, i_bin, i_dv, i_un, i_lbin, i_lsh, i_i2l, i_l2i, i_lcmp, i_dup, i_dup2, i_pop, i_if, i_icmp, i_goto, swG, i_sw, i_getf, i_puti, i_putz, i_putr, i_ald, i_lald, i_aald, i_ast, i_last, i_aast, i_alen, i_new, i_newi, i_newl, i_newq, i_oinit, i_ret, i_zret, i_lret, i_vret, catS, tk, rpush, isO, i_m1, i_m2, i_acopy, i_callV, i_callS, KRet, lget, lput, lputL, lcl0, isL, lv0, List.map_cons, List.map_nil, List.length_cons, List.length_nil, List.cons_append, List.nil_append, Nat.reduceAdd, Nat.reduceSub, Nat.reduceLeDiff, List.replicate_succ, List.replicate_zero, List.getElem?_cons_succ, List.getElem?_cons_zero, List.set_cons_succ, List.set_cons_zero, true_and, and_true, if_true, if_false, ↓reduceIte, Nat.le_refl, Value.category, va_up_app, eq_self, stp, Nat.reduceBEq, Bool.or_false, Bool.false_or, Bool.true_or, Bool.or_true, or_true, true_or, bx_uu, implies_true, true_implies, not_true, not_false_eq_true, false_implies, and_self, Nat.reduceLT, Int32.reduceAdd, Int32.reduceSub, Int32.reduceMul, Int32.reduceLE, Int32.reduceLT, Int32.reduceToNatClampNeg, va_rf_some, Bool.false_eq_true, k_L_types_0 ca, k_L_types_1 ca, k_L_types_2 ca, k_L_types_5 ca, k_L_types_6 ca, k_L_types_7 ca, k_L_types_10 ca, k_L_types_13 ca, k_L_types_14 ca, k_L_types_17 ca, k_L_types_18 ca, k_L_types_19 ca, k_L_types_20 ca, k_L_types_22 ca, k_L_types_24 ca, k_L_types_25 ca, k_L_types_28 ca, k_L_types_29 ca, k_L_types_30 ca, k_L_types_31 ca, k_L_types_33 ca, k_L_types_34 ca, k_L_types_35 ca, k_L_types_36 ca, k_L_types_38 ca, k_L_types_39 ca, k_L_types_42 ca, k_L_types_44 ca, k_L_types_47 ca, k_L_types_48 ca, k_L_types_50 ca, k_L_types_53 ca, k_L_types_56 ca, k_L_types_57 ca, k_L_types_59 ca, k_L_types_61 ca, k_L_types_63 ca, k_L_types_66 ca, k_L_types_67 ca, k_L_types_70 ca, k_L_types_73 ca, k_L_types_74 ca, k_L_types_76 ca, k_L_types_78 ca, k_L_types_79 ca, k_L_types_80 ca, k_L_types_82 ca, k_L_types_85 ca, k_L_types_86 ca, k_L_types_89 ca, k_L_types_92 ca, k_L_types_93 ca, k_L_types_95 ca, k_L_types_97 ca, k_L_types_98 ca, k_L_types_99 ca, k_L_types_100 ca, k_L_types_102 ca, k_L_types_103 ca, k_L_types_105 ca, k_L_types_108 ca, k_L_types_111 ca, k_L_types_113 ca, k_L_types_116 ca, k_L_types_118 ca, k_L_types_121 ca, k_L_types_122 ca, k_L_types_125 ca, k_L_types_128 ca, k_L_types_129 ca, k_L_types_132 ca, k_L_types_133 ca, k_L_types_134 ca, k_L_types_137 ca, k_L_types_140 ca, k_L_types_141 ca, k_L_types_144 ca, k_L_types_145 ca, k_L_types_147 ca, k_L_types_148 ca, k_L_types_150 ca, k_L_types_153 ca, k_L_types_156 ca, k_L_types_157 ca, k_L_types_159 ca, k_L_types_162 ca, k_L_types_165 ca, k_L_types_166 ca, k_L_types_169 ca, k_L_types_170 ca, p3, a_1]
          try clear hF hF0 F
          exact k0 f4 h4 H4
        · obtain ⟨r3, hr3, er3⟩ := low_nI (y >>> (4 &&& 31)) 6 (M := 6) rfl (by decide) (by decide)
          refine goN go (stp [125]) 160 _ _ _ _ _ _ (fun F hF hF0 => ?_)
          simp only [hF, hF0, ite_not, i_push, i_iload, i_lload, i_aload, i_istore, i_astore, i_lstore, i_iinc, i_bin, i_dv, i_un, i_lbin, i_lsh, i_i2l, i_l2i, i_lcmp, i_dup, i_dup2, i_pop, i_if, i_icmp, i_goto, swG, i_sw, i_getf, i_puti, i_putz, i_putr, i_ald, i_lald, i_aald, i_ast, i_last, i_aast, i_alen, i_new, i_newi, i_newl, i_newq, i_oinit, i_ret, i_zret, i_lret, i_vret, catS, tk, rpush, isO, i_m1, i_m2, i_acopy, i_callV, i_callS, KRet, lget, lput, lputL, lcl0, isL, lv0, List.map_cons, List.map_nil, List.length_cons, List.length_nil, List.cons_append, List.nil_append, Nat.reduceAdd, Nat.reduceSub, Nat.reduceLeDiff, List.replicate_succ, List.replicate_zero, List.getElem?_cons_succ, List.getElem?_cons_zero, List.set_cons_succ, List.set_cons_zero, true_and, and_true, if_true, if_false, ↓reduceIte, Nat.le_refl, Value.category, va_up_app, eq_self, stp, Nat.reduceBEq, Bool.or_false, Bool.false_or, Bool.true_or, Bool.or_true, or_true, true_or, bx_uu, implies_true, true_implies, not_true, not_false_eq_true, false_implies, and_self, Nat.reduceLT, Int32.reduceAdd, Int32.reduceSub, Int32.reduceMul, Int32.reduceLE, Int32.reduceLT, Int32.reduceToNatClampNeg, va_rf_some, Bool.false_eq_true, k_L_types_0 ca, k_L_types_1 ca, k_L_types_2 ca, k_L_types_5 ca, k_L_types_6 ca, k_L_types_7 ca, k_L_types_10 ca, k_L_types_13 ca, k_L_types_14 ca, k_L_types_17 ca, k_L_types_18 ca, k_L_types_19 ca, k_L_types_20 ca, k_L_types_22 ca, k_L_types_24 ca, k_L_types_25 ca, k_L_types_28 ca, k_L_types_29 ca, k_L_types_30 ca, k_L_types_31 ca, k_L_types_33 ca, k_L_types_34 ca, k_L_types_35 ca, k_L_types_36 ca, k_L_types_38 ca, k_L_types_39 ca, k_L_types_42 ca, k_L_types_44 ca, k_L_types_47 ca, k_L_types_48 ca, k_L_types_50 ca, k_L_types_53 ca, k_L_types_56 ca, k_L_types_57 ca, k_L_types_59 ca, k_L_types_61 ca, k_L_types_63 ca, k_L_types_66 ca, k_L_types_67 ca, k_L_types_70 ca, k_L_types_73 ca, k_L_types_74 ca, k_L_types_76 ca, k_L_types_78 ca, k_L_types_79 ca, k_L_types_80 ca, k_L_types_82 ca, k_L_types_85 ca, k_L_types_86 ca, k_L_types_89 ca, k_L_types_92 ca, k_L_types_93 ca, k_L_types_95 ca, k_L_types_97 ca, k_L_types_98 ca, k_L_types_99 ca, k_L_types_100 ca, k_L_types_102 ca, k_L_types_103 ca, k_L_types_105 ca, k_L_types_108 ca, k_L_types_111 ca, k_L_types_113 ca, k_L_types_116 ca, k_L_types_118 ca, k_L_types_121 ca, k_L_types_122 ca, k_L_types_125 ca, k_L_types_128 ca, k_L_types_129 ca, k_L_types_132 ca, k_L_types_133 ca, k_L_types_134 ca, k_L_types_137 ca, k_L_types_140 ca, k_L_types_141 ca, k_L_types_144 ca, k_L_types_145 ca, k_L_types_147 ca, k_L_types_148 ca, k_L_types_150 ca, k_L_types_153 ca, k_L_types_156 ca, k_L_types_157 ca, k_L_types_159 ca, k_L_types_162 ca, k_L_types_165 ca, k_L_types_166 ca, k_L_types_169 ca, k_L_types_170 ca, sp_L_low, z8, z6, c73, er3, p2, q]
          try clear hF hF0 F
          refine H3.type (chr_in (a := 97) (by omega) (by omega)) (by omega) (fun h4 f4 H4 => ?_)
          show K 0 0 125 _ [.int (nI (m + 1 + 1 + 1))] h4
          refine goN go (stp [22]) 160 _ _ _ _ _ _ (fun F hF hF0 => ?_)
          simp only [hF, hF0, ite_not, i_push, i_iload, i_lload, i_aload, i_istore, i_astore, i_lstore, i_iinc, i_bin, i_dv, i_un, i_lbin, i_lsh, i_i2l, i_l2i, i_lcmp, i_dup, i_dup2, i_pop, i_if, i_icmp, i_goto, swG, i_sw, i_getf, i_puti, i_putz, i_putr, i_ald, i_lald, i_aald, i_ast, i_last, i_aast, i_alen, i_new, i_newi, i_newl, i_newq, i_oinit, i_ret, i_zret, i_lret, i_vret, catS, tk, rpush, isO, i_m1, i_m2, i_acopy, i_callV, i_callS, KRet, lget, lput, lputL, lcl0, isL, lv0, List.map_cons, List.map_nil, List.length_cons, List.length_nil, List.cons_append, List.nil_append, Nat.reduceAdd, Nat.reduceSub, Nat.reduceLeDiff, List.replicate_succ, List.replicate_zero, List.getElem?_cons_succ, List.getElem?_cons_zero, List.set_cons_succ, List.set_cons_zero, true_and, and_true, if_true, if_false, ↓reduceIte, Nat.le_refl, Value.category, va_up_app, eq_self, stp, Nat.reduceBEq, Bool.or_false, Bool.false_or, Bool.true_or, Bool.or_true, or_true, true_or, bx_uu, implies_true, true_implies, not_true, not_false_eq_true, false_implies, and_self, Nat.reduceLT, Int32.reduceAdd, Int32.reduceSub, Int32.reduceMul, Int32.reduceLE, Int32.reduceLT, Int32.reduceToNatClampNeg, va_rf_some, Bool.false_eq_true, k_L_types_0 ca, k_L_types_1 ca, k_L_types_2 ca, k_L_types_5 ca, k_L_types_6 ca, k_L_types_7 ca, k_L_types_10 ca, k_L_types_13 ca, k_L_types_14 ca, k_L_types_17 ca, k_L_types_18 ca, k_L_types_19 ca, k_L_types_20 ca, k_L_types_22 ca, k_L_types_24 ca, k_L_types_25 ca, k_L_types_28 ca, k_L_types_29 ca, k_L_types_30 ca, k_L_types_31 ca, k_L_types_33 ca, k_L_types_34 ca, k_L_types_35 ca, k_L_types_36 ca, k_L_types_38 ca, k_L_types_39 ca, k_L_types_42 ca, k_L_types_44 ca, k_L_types_47 ca, k_L_types_48 ca, k_L_types_50 ca, k_L_types_53 ca, k_L_types_56 ca, k_L_types_57 ca, k_L_types_59 ca, k_L_types_61 ca, k_L_types_63 ca, k_L_types_66 ca, k_L_types_67 ca, k_L_types_70 ca, k_L_types_73 ca, k_L_types_74 ca, k_L_types_76 ca, k_L_types_78 ca, k_L_types_79 ca, k_L_types_80 ca, k_L_types_82 ca, k_L_types_85 ca, k_L_types_86 ca, k_L_types_89 ca, k_L_types_92 ca, k_L_types_93 ca, k_L_types_95 ca, k_L_types_97 ca, k_L_types_98 ca, k_L_types_99 ca, k_L_types_100 ca, k_L_types_102 ca, k_L_types_103 ca, k_L_types_105 ca, k_L_types_108 ca, k_L_types_111 ca, k_L_types_113 ca, k_L_types_116 ca, k_L_types_118 ca, k_L_types_121 ca, k_L_types_122 ca, k_L_types_125 ca, k_L_types_128 ca, k_L_types_129 ca, k_L_types_132 ca, k_L_types_133 ca, k_L_types_134 ca, k_L_types_137 ca, k_L_types_140 ca, k_L_types_141 ca, k_L_types_144 ca, k_L_types_145 ca, k_L_types_147 ca, k_L_types_148 ca, k_L_types_150 ca, k_L_types_153 ca, k_L_types_156 ca, k_L_types_157 ca, k_L_types_159 ca, k_L_types_162 ca, k_L_types_165 ca, k_L_types_166 ca, k_L_types_169 ca, k_L_types_170 ca, p3, a_1]
          try clear hF hF0 F
          exact k0 f4 h4 H4
      obtain ⟨fs1, c71⟩ := H1.cell
      by_cases q : k = 0
      · have k0 := rest m f1 h1 (by omega) H1
        have e0 : (nI k = 0) = True := by rw [ek0]; exact eq_true q
        refine goN go (stp [56]) 160 _ _ _ _ _ _ (fun F hF hF0 => ?_)
        simp only [hF, hF0, ite_not, i_push, i_iload, i_lload, i_aload, i_istore, i_astore, i_lstore, i_iinc, i_bin, i_dv, i_un, i_lbin, i_lsh, i_i2l, i_l2i, i_lcmp, i_dup, i_dup2, i_pop, i_if, i_icmp, i_goto, swG, i_sw, i_getf, i_puti, i_putz, i_putr, i_ald, i_lald, i_aald, i_ast, i_last, i_aast, i_alen, i_new, i_newi, i_newl, i_newq, i_oinit, i_ret, i_zret, i_lret, i_vret, catS, tk, rpush, isO, i_m1, i_m2, i_acopy, i_callV, i_callS, KRet, lget, lput, lputL, lcl0, isL, lv0, List.map_cons, List.map_nil, List.length_cons, List.length_nil, List.cons_append, List.nil_append, Nat.reduceAdd, Nat.reduceSub, Nat.reduceLeDiff, List.replicate_succ, List.replicate_zero, List.getElem?_cons_succ, List.getElem?_cons_zero, List.set_cons_succ, List.set_cons_zero, true_and, and_true, if_true, if_false, ↓reduceIte, Nat.le_refl, Value.category, va_up_app, eq_self, stp, Nat.reduceBEq, Bool.or_false, Bool.false_or, Bool.true_or, Bool.or_true, or_true, true_or, bx_uu, implies_true, true_implies, not_true, not_false_eq_true, false_implies, and_self, Nat.reduceLT, Int32.reduceAdd, Int32.reduceSub, Int32.reduceMul, Int32.reduceLE, Int32.reduceLT, Int32.reduceToNatClampNeg, va_rf_some, Bool.false_eq_true, k_L_types_0 ca, k_L_types_1 ca, k_L_types_2 ca, k_L_types_5 ca, k_L_types_6 ca, k_L_types_7 ca, k_L_types_10 ca, k_L_types_13 ca, k_L_types_14 ca, k_L_types_17 ca, k_L_types_18 ca, k_L_types_19 ca, k_L_types_20 ca, k_L_types_22 ca, k_L_types_24 ca, k_L_types_25 ca, k_L_types_28 ca, k_L_types_29 ca, k_L_types_30 ca, k_L_types_31 ca, k_L_types_33 ca, k_L_types_34 ca, k_L_types_35 ca, k_L_types_36 ca, k_L_types_38 ca, k_L_types_39 ca, k_L_types_42 ca, k_L_types_44 ca, k_L_types_47 ca, k_L_types_48 ca, k_L_types_50 ca, k_L_types_53 ca, k_L_types_56 ca, k_L_types_57 ca, k_L_types_59 ca, k_L_types_61 ca, k_L_types_63 ca, k_L_types_66 ca, k_L_types_67 ca, k_L_types_70 ca, k_L_types_73 ca, k_L_types_74 ca, k_L_types_76 ca, k_L_types_78 ca, k_L_types_79 ca, k_L_types_80 ca, k_L_types_82 ca, k_L_types_85 ca, k_L_types_86 ca, k_L_types_89 ca, k_L_types_92 ca, k_L_types_93 ca, k_L_types_95 ca, k_L_types_97 ca, k_L_types_98 ca, k_L_types_99 ca, k_L_types_100 ca, k_L_types_102 ca, k_L_types_103 ca, k_L_types_105 ca, k_L_types_108 ca, k_L_types_111 ca, k_L_types_113 ca, k_L_types_116 ca, k_L_types_118 ca, k_L_types_121 ca, k_L_types_122 ca, k_L_types_125 ca, k_L_types_128 ca, k_L_types_129 ca, k_L_types_132 ca, k_L_types_133 ca, k_L_types_134 ca, k_L_types_137 ca, k_L_types_140 ca, k_L_types_141 ca, k_L_types_144 ca, k_L_types_145 ca, k_L_types_147 ca, k_L_types_148 ca, k_L_types_150 ca, k_L_types_153 ca, k_L_types_156 ca, k_L_types_157 ca, k_L_types_159 ca, k_L_types_162 ca, k_L_types_165 ca, k_L_types_166 ca, k_L_types_169 ca, k_L_types_170 ca, e1, e0, one0]
        try clear hF hF0 F
        exact k0
      · have e0 : (nI k = 0) = False := by rw [ek0]; exact eq_false q
        refine goN go (stp [53]) 160 _ _ _ _ _ _ (fun F hF hF0 => ?_)
        simp only [hF, hF0, ite_not, i_push, i_iload, i_lload, i_aload, i_istore, i_astore, i_lstore, i_iinc, i_bin, i_dv, i_un, i_lbin, i_lsh, i_i2l, i_l2i, i_lcmp, i_dup, i_dup2, i_pop, i_if, i_icmp, i_goto, swG, i_sw, i_getf, i_puti, i_putz, i_putr, i_ald, i_lald, i_aald, i_ast, i_last, i_aast, i_alen, i_new, i_newi, i_newl, i_newq, i_oinit, i_ret, i_zret, i_lret, i_vret, catS, tk, rpush, isO, i_m1, i_m2, i_acopy, i_callV, i_callS, KRet, lget, lput, lputL, lcl0, isL, lv0, List.map_cons, List.map_nil, List.length_cons, List.length_nil, List.cons_append, List.nil_append, Nat.reduceAdd, Nat.reduceSub, Nat.reduceLeDiff, List.replicate_succ, List.replicate_zero, List.getElem?_cons_succ, List.getElem?_cons_zero, List.set_cons_succ, List.set_cons_zero, true_and, and_true, if_true, if_false, ↓reduceIte, Nat.le_refl, Value.category, va_up_app, eq_self, stp, Nat.reduceBEq, Bool.or_false, Bool.false_or, Bool.true_or, Bool.or_true, or_true, true_or, bx_uu, implies_true, true_implies, not_true, not_false_eq_true, false_implies, and_self, Nat.reduceLT, Int32.reduceAdd, Int32.reduceSub, Int32.reduceMul, Int32.reduceLE, Int32.reduceLT, Int32.reduceToNatClampNeg, va_rf_some, Bool.false_eq_true, k_L_types_0 ca, k_L_types_1 ca, k_L_types_2 ca, k_L_types_5 ca, k_L_types_6 ca, k_L_types_7 ca, k_L_types_10 ca, k_L_types_13 ca, k_L_types_14 ca, k_L_types_17 ca, k_L_types_18 ca, k_L_types_19 ca, k_L_types_20 ca, k_L_types_22 ca, k_L_types_24 ca, k_L_types_25 ca, k_L_types_28 ca, k_L_types_29 ca, k_L_types_30 ca, k_L_types_31 ca, k_L_types_33 ca, k_L_types_34 ca, k_L_types_35 ca, k_L_types_36 ca, k_L_types_38 ca, k_L_types_39 ca, k_L_types_42 ca, k_L_types_44 ca, k_L_types_47 ca, k_L_types_48 ca, k_L_types_50 ca, k_L_types_53 ca, k_L_types_56 ca, k_L_types_57 ca, k_L_types_59 ca, k_L_types_61 ca, k_L_types_63 ca, k_L_types_66 ca, k_L_types_67 ca, k_L_types_70 ca, k_L_types_73 ca, k_L_types_74 ca, k_L_types_76 ca, k_L_types_78 ca, k_L_types_79 ca, k_L_types_80 ca, k_L_types_82 ca, k_L_types_85 ca, k_L_types_86 ca, k_L_types_89 ca, k_L_types_92 ca, k_L_types_93 ca, k_L_types_95 ca, k_L_types_97 ca, k_L_types_98 ca, k_L_types_99 ca, k_L_types_100 ca, k_L_types_102 ca, k_L_types_103 ca, k_L_types_105 ca, k_L_types_108 ca, k_L_types_111 ca, k_L_types_113 ca, k_L_types_116 ca, k_L_types_118 ca, k_L_types_121 ca, k_L_types_122 ca, k_L_types_125 ca, k_L_types_128 ca, k_L_types_129 ca, k_L_types_132 ca, k_L_types_133 ca, k_L_types_134 ca, k_L_types_137 ca, k_L_types_140 ca, k_L_types_141 ca, k_L_types_144 ca, k_L_types_145 ca, k_L_types_147 ca, k_L_types_148 ca, k_L_types_150 ca, k_L_types_153 ca, k_L_types_156 ca, k_L_types_157 ca, k_L_types_159 ca, k_L_types_162 ca, k_L_types_165 ca, k_L_types_166 ca, k_L_types_169 ca, k_L_types_170 ca, e1, e0, one0, c71]
        try clear hF hF0 F
        refine H1.type (by decide) (by omega) (fun h2 f2 H2 => ?_)
        show K 0 0 53 _ [.int (nI (m + 1))] h2
        have p1 := pos_s (m := m) (by omega)
        have k0 := rest (m + 1) f2 h2 (by omega) H2
        refine goN go (stp [56]) 160 _ _ _ _ _ _ (fun F hF hF0 => ?_)
        simp only [hF, hF0, ite_not, i_push, i_iload, i_lload, i_aload, i_istore, i_astore, i_lstore, i_iinc, i_bin, i_dv, i_un, i_lbin, i_lsh, i_i2l, i_l2i, i_lcmp, i_dup, i_dup2, i_pop, i_if, i_icmp, i_goto, swG, i_sw, i_getf, i_puti, i_putz, i_putr, i_ald, i_lald, i_aald, i_ast, i_last, i_aast, i_alen, i_new, i_newi, i_newl, i_newq, i_oinit, i_ret, i_zret, i_lret, i_vret, catS, tk, rpush, isO, i_m1, i_m2, i_acopy, i_callV, i_callS, KRet, lget, lput, lputL, lcl0, isL, lv0, List.map_cons, List.map_nil, List.length_cons, List.length_nil, List.cons_append, List.nil_append, Nat.reduceAdd, Nat.reduceSub, Nat.reduceLeDiff, List.replicate_succ, List.replicate_zero, List.getElem?_cons_succ, List.getElem?_cons_zero, List.set_cons_succ, List.set_cons_zero, true_and, and_true, if_true, if_false, ↓reduceIte, Nat.le_refl, Value.category, va_up_app, eq_self, stp, Nat.reduceBEq, Bool.or_false, Bool.false_or, Bool.true_or, Bool.or_true, or_true, true_or, bx_uu, implies_true, true_implies, not_true, not_false_eq_true, false_implies, and_self, Nat.reduceLT, Int32.reduceAdd, Int32.reduceSub, Int32.reduceMul, Int32.reduceLE, Int32.reduceLT, Int32.reduceToNatClampNeg, va_rf_some, Bool.false_eq_true, k_L_types_0 ca, k_L_types_1 ca, k_L_types_2 ca, k_L_types_5 ca, k_L_types_6 ca, k_L_types_7 ca, k_L_types_10 ca, k_L_types_13 ca, k_L_types_14 ca, k_L_types_17 ca, k_L_types_18 ca, k_L_types_19 ca, k_L_types_20 ca, k_L_types_22 ca, k_L_types_24 ca, k_L_types_25 ca, k_L_types_28 ca, k_L_types_29 ca, k_L_types_30 ca, k_L_types_31 ca, k_L_types_33 ca, k_L_types_34 ca, k_L_types_35 ca, k_L_types_36 ca, k_L_types_38 ca, k_L_types_39 ca, k_L_types_42 ca, k_L_types_44 ca, k_L_types_47 ca, k_L_types_48 ca, k_L_types_50 ca, k_L_types_53 ca, k_L_types_56 ca, k_L_types_57 ca, k_L_types_59 ca, k_L_types_61 ca, k_L_types_63 ca, k_L_types_66 ca, k_L_types_67 ca, k_L_types_70 ca, k_L_types_73 ca, k_L_types_74 ca, k_L_types_76 ca, k_L_types_78 ca, k_L_types_79 ca, k_L_types_80 ca, k_L_types_82 ca, k_L_types_85 ca, k_L_types_86 ca, k_L_types_89 ca, k_L_types_92 ca, k_L_types_93 ca, k_L_types_95 ca, k_L_types_97 ca, k_L_types_98 ca, k_L_types_99 ca, k_L_types_100 ca, k_L_types_102 ca, k_L_types_103 ca, k_L_types_105 ca, k_L_types_108 ca, k_L_types_111 ca, k_L_types_113 ca, k_L_types_116 ca, k_L_types_118 ca, k_L_types_121 ca, k_L_types_122 ca, k_L_types_125 ca, k_L_types_128 ca, k_L_types_129 ca, k_L_types_132 ca, k_L_types_133 ca, k_L_types_134 ca, k_L_types_137 ca, k_L_types_140 ca, k_L_types_141 ca, k_L_types_144 ca, k_L_types_145 ca, k_L_types_147 ca, k_L_types_148 ca, k_L_types_150 ca, k_L_types_153 ca, k_L_types_156 ca, k_L_types_157 ca, k_L_types_159 ca, k_L_types_162 ca, k_L_types_165 ca, k_L_types_166 ca, k_L_types_169 ca, k_L_types_170 ca, p1]
        try clear hF hF0 F
        exact k0
  obtain ⟨C, hC, eC⟩ := low_nI x 5 (M := 5) rfl (by decide) (by decide)
  refine goN go (stp [10]) 160 _ _ _ _ _ _ (fun F hF hF0 => ?_)
  simp only [hF, hF0, ite_not, i_push, i_iload, i_lload, i_aload, i_istore, i_astore, i_lstore, i_iinc, i_bin, i_dv, i_un, i_lbin, i_lsh, i_i2l, i_l2i, i_lcmp, i_dup, i_dup2, i_pop, i_if, i_icmp, i_goto, swG, i_sw, i_getf, i_puti, i_putz, i_putr, i_ald, i_lald, i_aald, i_ast, i_last, i_aast, i_alen, i_new, i_newi, i_newl, i_newq, i_oinit, i_ret, i_zret, i_lret, i_vret, catS, tk, rpush, isO, i_m1, i_m2, i_acopy, i_callV, i_callS, KRet, lget, lput, lputL, lcl0, isL, lv0, List.map_cons, List.map_nil, List.length_cons, List.length_nil, List.cons_append, List.nil_append, Nat.reduceAdd, Nat.reduceSub, Nat.reduceLeDiff, List.replicate_succ, List.replicate_zero, List.getElem?_cons_succ, List.getElem?_cons_zero, List.set_cons_succ, List.set_cons_zero, true_and, and_true, if_true, if_false, ↓reduceIte, Nat.le_refl, Value.category, va_up_app, eq_self, stp, Nat.reduceBEq, Bool.or_false, Bool.false_or, Bool.true_or, Bool.or_true, or_true, true_or, bx_uu, implies_true, true_implies, not_true, not_false_eq_true, false_implies, and_self, Nat.reduceLT, Int32.reduceAdd, Int32.reduceSub, Int32.reduceMul, Int32.reduceLE, Int32.reduceLT, Int32.reduceToNatClampNeg, va_rf_some, Bool.false_eq_true, k_L_types_0 ca, k_L_types_1 ca, k_L_types_2 ca, k_L_types_5 ca, k_L_types_6 ca, k_L_types_7 ca, k_L_types_10 ca, k_L_types_13 ca, k_L_types_14 ca, k_L_types_17 ca, k_L_types_18 ca, k_L_types_19 ca, k_L_types_20 ca, k_L_types_22 ca, k_L_types_24 ca, k_L_types_25 ca, k_L_types_28 ca, k_L_types_29 ca, k_L_types_30 ca, k_L_types_31 ca, k_L_types_33 ca, k_L_types_34 ca, k_L_types_35 ca, k_L_types_36 ca, k_L_types_38 ca, k_L_types_39 ca, k_L_types_42 ca, k_L_types_44 ca, k_L_types_47 ca, k_L_types_48 ca, k_L_types_50 ca, k_L_types_53 ca, k_L_types_56 ca, k_L_types_57 ca, k_L_types_59 ca, k_L_types_61 ca, k_L_types_63 ca, k_L_types_66 ca, k_L_types_67 ca, k_L_types_70 ca, k_L_types_73 ca, k_L_types_74 ca, k_L_types_76 ca, k_L_types_78 ca, k_L_types_79 ca, k_L_types_80 ca, k_L_types_82 ca, k_L_types_85 ca, k_L_types_86 ca, k_L_types_89 ca, k_L_types_92 ca, k_L_types_93 ca, k_L_types_95 ca, k_L_types_97 ca, k_L_types_98 ca, k_L_types_99 ca, k_L_types_100 ca, k_L_types_102 ca, k_L_types_103 ca, k_L_types_105 ca, k_L_types_108 ca, k_L_types_111 ca, k_L_types_113 ca, k_L_types_116 ca, k_L_types_118 ca, k_L_types_121 ca, k_L_types_122 ca, k_L_types_125 ca, k_L_types_128 ca, k_L_types_129 ca, k_L_types_132 ca, k_L_types_133 ca, k_L_types_134 ca, k_L_types_137 ca, k_L_types_140 ca, k_L_types_141 ca, k_L_types_144 ca, k_L_types_145 ca, k_L_types_147 ca, k_L_types_148 ca, k_L_types_150 ca, k_L_types_153 ca, k_L_types_156 ca, k_L_types_157 ca, k_L_types_159 ca, k_L_types_162 ca, k_L_types_165 ca, k_L_types_166 ca, k_L_types_169 ca, k_L_types_170 ca, sp_L_low, z5, c7, eC]
  try clear hF hF0 F
  refine H.clear (fun h1 H1 => ?_)
  show K 0 0 10 _ [.int (nI n)] h1
  have p := nI_pos (n := n) (by omega)
  have k0 := loop C hC C 0 (by omega) none 0 f h1 (by omega) H1
  rw [nI_0] at k0
  refine goN go (stp [22]) 160 _ _ _ _ _ _ (fun F hF hF0 => ?_)
  simp only [hF, hF0, ite_not, i_push, i_iload, i_lload, i_aload, i_istore, i_astore, i_lstore, i_iinc, i_bin, i_dv, i_un, i_lbin, i_lsh, i_i2l, i_l2i, i_lcmp, i_dup, i_dup2, i_pop, i_if, i_icmp, i_goto, swG, i_sw, i_getf, i_puti, i_putz, i_putr, i_ald, i_lald, i_aald, i_ast, i_last, i_aast, i_alen, i_new, i_newi, i_newl, i_newq, i_oinit, i_ret, i_zret, i_lret, i_vret, catS, tk, rpush, isO, i_m1, i_m2, i_acopy, i_callV, i_callS, KRet, lget, lput, lputL, lcl0, isL, lv0, List.map_cons, List.map_nil, List.length_cons, List.length_nil, List.cons_append, List.nil_append, Nat.reduceAdd, Nat.reduceSub, Nat.reduceLeDiff, List.replicate_succ, List.replicate_zero, List.getElem?_cons_succ, List.getElem?_cons_zero, List.set_cons_succ, List.set_cons_zero, true_and, and_true, if_true, if_false, ↓reduceIte, Nat.le_refl, Value.category, va_up_app, eq_self, stp, Nat.reduceBEq, Bool.or_false, Bool.false_or, Bool.true_or, Bool.or_true, or_true, true_or, bx_uu, implies_true, true_implies, not_true, not_false_eq_true, false_implies, and_self, Nat.reduceLT, Int32.reduceAdd, Int32.reduceSub, Int32.reduceMul, Int32.reduceLE, Int32.reduceLT, Int32.reduceToNatClampNeg, va_rf_some, Bool.false_eq_true, k_L_types_0 ca, k_L_types_1 ca, k_L_types_2 ca, k_L_types_5 ca, k_L_types_6 ca, k_L_types_7 ca, k_L_types_10 ca, k_L_types_13 ca, k_L_types_14 ca, k_L_types_17 ca, k_L_types_18 ca, k_L_types_19 ca, k_L_types_20 ca, k_L_types_22 ca, k_L_types_24 ca, k_L_types_25 ca, k_L_types_28 ca, k_L_types_29 ca, k_L_types_30 ca, k_L_types_31 ca, k_L_types_33 ca, k_L_types_34 ca, k_L_types_35 ca, k_L_types_36 ca, k_L_types_38 ca, k_L_types_39 ca, k_L_types_42 ca, k_L_types_44 ca, k_L_types_47 ca, k_L_types_48 ca, k_L_types_50 ca, k_L_types_53 ca, k_L_types_56 ca, k_L_types_57 ca, k_L_types_59 ca, k_L_types_61 ca, k_L_types_63 ca, k_L_types_66 ca, k_L_types_67 ca, k_L_types_70 ca, k_L_types_73 ca, k_L_types_74 ca, k_L_types_76 ca, k_L_types_78 ca, k_L_types_79 ca, k_L_types_80 ca, k_L_types_82 ca, k_L_types_85 ca, k_L_types_86 ca, k_L_types_89 ca, k_L_types_92 ca, k_L_types_93 ca, k_L_types_95 ca, k_L_types_97 ca, k_L_types_98 ca, k_L_types_99 ca, k_L_types_100 ca, k_L_types_102 ca, k_L_types_103 ca, k_L_types_105 ca, k_L_types_108 ca, k_L_types_111 ca, k_L_types_113 ca, k_L_types_116 ca, k_L_types_118 ca, k_L_types_121 ca, k_L_types_122 ca, k_L_types_125 ca, k_L_types_128 ca, k_L_types_129 ca, k_L_types_132 ca, k_L_types_133 ca, k_L_types_134 ca, k_L_types_137 ca, k_L_types_140 ca, k_L_types_141 ca, k_L_types_144 ca, k_L_types_145 ca, k_L_types_147 ca, k_L_types_148 ca, k_L_types_150 ca, k_L_types_153 ca, k_L_types_156 ca, k_L_types_157 ca, k_L_types_159 ca, k_L_types_162 ca, k_L_types_165 ca, k_L_types_166 ca, k_L_types_169 ca, k_L_types_170 ca, p]
  try clear hF hF0 F
  exact k0
def sp_L_reads (ca : Nat → ClassId) : SPEC := fun av h post => ∃ g B s ss T n f k, k < 3 ∧ av = [.ref (g 0), .int (nI k)] ∧ LC ca h g B s ss T n f ∧ ∀ h' s' ss' T', LC ca h' g B s' ss' T' n f → Nw s ss T s' ss' T' → post (some (.int 1)) h'
def k_L_reads (g : Nat → Nat) (B : Nat) (s : Nat → Int32) (ss : Nat) (T : Nat → Int32) (n : Nat) (f : Nat → Int32) (ca : Nat → ClassId) : Nat → IT := fun pc => if pc < 73 then lk pc [(0, i_aload 0 1),
  (1, i_push (.int 0) 2),
  (2, i_callV 7 1 0 0 0 0 (sq_fault g B s ss T n f ca) 5),
  (5, i_istore 2 6),
  (6, i_aload 0 7),
  (7, i_push (.int 1) 8),
  (8, i_callV 7 1 0 0 0 0 (sq_fault g B s ss T n f ca) 11),
  (11, i_istore 3 12),
  (12, i_aload 0 13),
  (13, i_push (.int 4) 14),
  (14, i_callV 7 1 0 0 0 0 (sq_count g B s ss T n f ca) 17),
  (17, i_istore 4 19),
  (19, i_aload 0 20),
  (20, i_iload 1 21),
  (21, i_callV 7 1 0 0 0 0 (sp_X7_read ca) 24),
  (24, i_istore 5 26),
  (26, i_iload 2 27),
  (27, i_push (.int (-10000004)) 29),
  (29, i_icmp (fun x y => ¬ x = y) 77 32),
  (32, i_iload 3 33),
  (33, i_push (.int (-10000004)) 35),
  (35, i_icmp (fun x y => ¬ x = y) 77 38),
  (38, i_iload 4 40),
  (40, i_if (fun x => ¬ x = 0) 51 43),
  (43, i_iload 5 45),
  (45, i_if (fun x => ¬ x = 0) 77 48),
  (48, i_goto 62),
  (51, i_push (.int 4) 52),
  (52, i_iload 5 54),
  (54, i_bin (fun x y => x * y) 55),
  (55, i_iload 4 57),
  (57, i_push (.int 1) 58),
  (58, i_bin (fun x y => x + y) 59),
  (59, i_icmp (fun x y => ¬ x = y) 77 62),
  (62, i_aload 0 63),
  (63, i_iload 1 64),
  (64, i_push (.int 0) 65),
  (65, i_callV 7 2 0 0 0 0 (sp_X7_stripOf ca) 68),
  (68, i_iload 5 70),
  (70, i_icmp (fun x y => ¬ x = y) 77 73)] else
  lk pc [(73, i_push (.int 1) 74),
  (74, i_goto 78),
  (77, i_push (.int 0) 78),
  (78, i_istore 6 80),
  (80, i_iload 2 81),
  (81, i_if (fun x => x < 0) 110 84),
  (84, i_iload 2 85),
  (85, i_iload 4 87),
  (87, i_icmp (fun x y => y < x) 110 90),
  (90, i_iload 3 91),
  (91, i_if (fun x => x ≤ 0) 110 94),
  (94, i_iload 3 95),
  (95, i_push (.int 3) 96),
  (96, i_icmp (fun x y => y ≤ x) 110 99),
  (99, i_iload 5 101),
  (101, i_push (.int (-10000002)) 103),
  (103, i_icmp (fun x y => ¬ x = y) 110 106),
  (106, i_push (.int 1) 107),
  (107, i_goto 111),
  (110, i_push (.int 0) 111),
  (111, i_istore 7 113),
  (113, i_iload 6 115),
  (115, i_if (fun x => ¬ x = 0) 123 118),
  (118, i_iload 7 120),
  (120, i_if (fun x => x = 0) 137 123),
  (123, i_aload 0 124),
  (124, i_push (.int 4) 125),
  (125, i_callV 7 1 0 0 0 0 (sp_X7_count ca) 128),
  (128, i_iload 4 130),
  (130, i_icmp (fun x y => ¬ x = y) 137 133),
  (133, i_push (.int 1) 134),
  (134, i_goto 138),
  (137, i_push (.int 0) 138),
  (138, i_zret)]
set_option maxRecDepth 20000 in
theorem t_L_reads (g : Nat → Nat) (B : Nat) (s : Nat → Int32) (ss : Nat) (T : Nat → Int32) (n : Nat) (f : Nat → Int32) : Tb (k_L_reads g B s ss T n f) yL_reads cL_reads 8 (some .boolean) 6 0 0 := by
  intro l D ca A p e s0 m args below meth c post X
  unfold k_L_reads
  refine snd_split (73) ?_ ?_
  · refine snd_cons (snd_aload_n X dL_reads_0 rfl) ?_
    refine snd_cons (snd_iconst X dL_reads_1 (by decide)) ?_
    refine snd_cons (snd_callV X Fk7 (oq_fault g B s ss T n f l D ca) rfl rfl w_559 w_560 w_561 w_1 w_562 (by decide) (by decide) dL_reads_2) ?_
    refine snd_cons (snd_istore_n X dL_reads_5 rfl (by decide)) ?_
    refine snd_cons (snd_aload_n X dL_reads_6 rfl) ?_
    refine snd_cons (snd_iconst X dL_reads_7 (by decide)) ?_
    refine snd_cons (snd_callV X Fk7 (oq_fault g B s ss T n f l D ca) rfl rfl w_559 w_560 w_561 w_1 w_562 (by decide) (by decide) dL_reads_8) ?_
    refine snd_cons (snd_istore_n X dL_reads_11 rfl (by decide)) ?_
    refine snd_cons (snd_aload_n X dL_reads_12 rfl) ?_
    refine snd_cons (snd_iconst X dL_reads_13 (by decide)) ?_
    refine snd_cons (snd_callV X Fk7 (oq_count g B s ss T n f l D ca) rfl rfl w_269 w_270 w_271 w_1 w_272 (by decide) (by decide) dL_reads_14) ?_
    refine snd_cons (snd_istore X dL_reads_17 (by decide)) ?_
    refine snd_cons (snd_aload_n X dL_reads_19 rfl) ?_
    refine snd_cons (snd_iload_n X dL_reads_20 rfl) ?_
    refine snd_cons (snd_callV X Fk7 (ok_X7_read l D ca) rfl rfl w_577 w_578 w_579 w_1 w_580 (by decide) (by decide) dL_reads_21) ?_
    refine snd_cons (snd_istore X dL_reads_24 (by decide)) ?_
    refine snd_cons (snd_iload_n X dL_reads_26 rfl) ?_
    refine snd_cons (snd_ldc X w_390 dL_reads_27) ?_
    refine snd_cons (snd_icmp_ne X dL_reads_29 (by decide)) ?_
    refine snd_cons (snd_iload_n X dL_reads_32 rfl) ?_
    refine snd_cons (snd_ldc X w_390 dL_reads_33) ?_
    refine snd_cons (snd_icmp_ne X dL_reads_35 (by decide)) ?_
    refine snd_cons (snd_iload X dL_reads_38) ?_
    refine snd_cons (snd_if_ne X dL_reads_40 (by decide)) ?_
    refine snd_cons (snd_iload X dL_reads_43) ?_
    refine snd_cons (snd_if_ne X dL_reads_45 (by decide)) ?_
    refine snd_cons (snd_goto X dL_reads_48 (by decide)) ?_
    refine snd_cons (snd_iconst X dL_reads_51 (by decide)) ?_
    refine snd_cons (snd_iload X dL_reads_52) ?_
    refine snd_cons (snd_imul X dL_reads_54) ?_
    refine snd_cons (snd_iload X dL_reads_55) ?_
    refine snd_cons (snd_iconst X dL_reads_57 (by decide)) ?_
    refine snd_cons (snd_iadd X dL_reads_58) ?_
    refine snd_cons (snd_icmp_ne X dL_reads_59 (by decide)) ?_
    refine snd_cons (snd_aload_n X dL_reads_62 rfl) ?_
    refine snd_cons (snd_iload_n X dL_reads_63 rfl) ?_
    refine snd_cons (snd_iconst X dL_reads_64 (by decide)) ?_
    refine snd_cons (snd_callV X Fk7 (ok_X7_stripOf l D ca) rfl rfl w_323 w_324 w_325 w_1 w_326 (by decide) (by decide) dL_reads_65) ?_
    refine snd_cons (snd_iload X dL_reads_68) ?_
    refine snd_cons (snd_icmp_ne X dL_reads_70 (by decide)) ?_
    exact snd_nil
  refine snd_cons (snd_iconst X dL_reads_73 (by decide)) ?_
  refine snd_cons (snd_goto X dL_reads_74 (by decide)) ?_
  refine snd_cons (snd_iconst X dL_reads_77 (by decide)) ?_
  refine snd_cons (snd_istore X dL_reads_78 (by decide)) ?_
  refine snd_cons (snd_iload_n X dL_reads_80 rfl) ?_
  refine snd_cons (snd_if_lt X dL_reads_81 (by decide)) ?_
  refine snd_cons (snd_iload_n X dL_reads_84 rfl) ?_
  refine snd_cons (snd_iload X dL_reads_85) ?_
  refine snd_cons (snd_icmp_gt X dL_reads_87 (by decide)) ?_
  refine snd_cons (snd_iload_n X dL_reads_90 rfl) ?_
  refine snd_cons (snd_if_le X dL_reads_91 (by decide)) ?_
  refine snd_cons (snd_iload_n X dL_reads_94 rfl) ?_
  refine snd_cons (snd_iconst X dL_reads_95 (by decide)) ?_
  refine snd_cons (snd_icmp_ge X dL_reads_96 (by decide)) ?_
  refine snd_cons (snd_iload X dL_reads_99) ?_
  refine snd_cons (snd_ldc X w_492 dL_reads_101) ?_
  refine snd_cons (snd_icmp_ne X dL_reads_103 (by decide)) ?_
  refine snd_cons (snd_iconst X dL_reads_106 (by decide)) ?_
  refine snd_cons (snd_goto X dL_reads_107 (by decide)) ?_
  refine snd_cons (snd_iconst X dL_reads_110 (by decide)) ?_
  refine snd_cons (snd_istore X dL_reads_111 (by decide)) ?_
  refine snd_cons (snd_iload X dL_reads_113) ?_
  refine snd_cons (snd_if_ne X dL_reads_115 (by decide)) ?_
  refine snd_cons (snd_iload X dL_reads_118) ?_
  refine snd_cons (snd_if_eq X dL_reads_120 (by decide)) ?_
  refine snd_cons (snd_aload_n X dL_reads_123 rfl) ?_
  refine snd_cons (snd_iconst X dL_reads_124 (by decide)) ?_
  refine snd_cons (snd_callV X Fk7 (ok_X7_count l D ca) rfl rfl w_269 w_270 w_271 w_1 w_272 (by decide) (by decide) dL_reads_125) ?_
  refine snd_cons (snd_iload X dL_reads_128) ?_
  refine snd_cons (snd_icmp_ne X dL_reads_130 (by decide)) ?_
  refine snd_cons (snd_iconst X dL_reads_133 (by decide)) ?_
  refine snd_cons (snd_goto X dL_reads_134 (by decide)) ?_
  refine snd_cons (snd_iconst X dL_reads_137 (by decide)) ?_
  refine snd_cons (snd_zret X dL_reads_138) ?_
  exact snd_nil
theorem k_L_reads_0 {g : Nat → Nat} {B : Nat} {s : Nat → Int32} {ss : Nat} {T : Nat → Int32} {n : Nat} {f : Nat → Int32} (ca : Nat → ClassId) : k_L_reads g B s ss T n f ca 0 = i_aload 0 1 := rfl
theorem k_L_reads_1 {g : Nat → Nat} {B : Nat} {s : Nat → Int32} {ss : Nat} {T : Nat → Int32} {n : Nat} {f : Nat → Int32} (ca : Nat → ClassId) : k_L_reads g B s ss T n f ca 1 = i_push (.int 0) 2 := rfl
theorem k_L_reads_2 {g : Nat → Nat} {B : Nat} {s : Nat → Int32} {ss : Nat} {T : Nat → Int32} {n : Nat} {f : Nat → Int32} (ca : Nat → ClassId) : k_L_reads g B s ss T n f ca 2 = i_callV 7 1 0 0 0 0 (sq_fault g B s ss T n f ca) 5 := rfl
theorem k_L_reads_5 {g : Nat → Nat} {B : Nat} {s : Nat → Int32} {ss : Nat} {T : Nat → Int32} {n : Nat} {f : Nat → Int32} (ca : Nat → ClassId) : k_L_reads g B s ss T n f ca 5 = i_istore 2 6 := rfl
theorem k_L_reads_6 {g : Nat → Nat} {B : Nat} {s : Nat → Int32} {ss : Nat} {T : Nat → Int32} {n : Nat} {f : Nat → Int32} (ca : Nat → ClassId) : k_L_reads g B s ss T n f ca 6 = i_aload 0 7 := rfl
theorem k_L_reads_7 {g : Nat → Nat} {B : Nat} {s : Nat → Int32} {ss : Nat} {T : Nat → Int32} {n : Nat} {f : Nat → Int32} (ca : Nat → ClassId) : k_L_reads g B s ss T n f ca 7 = i_push (.int 1) 8 := rfl
theorem k_L_reads_8 {g : Nat → Nat} {B : Nat} {s : Nat → Int32} {ss : Nat} {T : Nat → Int32} {n : Nat} {f : Nat → Int32} (ca : Nat → ClassId) : k_L_reads g B s ss T n f ca 8 = i_callV 7 1 0 0 0 0 (sq_fault g B s ss T n f ca) 11 := rfl
theorem k_L_reads_11 {g : Nat → Nat} {B : Nat} {s : Nat → Int32} {ss : Nat} {T : Nat → Int32} {n : Nat} {f : Nat → Int32} (ca : Nat → ClassId) : k_L_reads g B s ss T n f ca 11 = i_istore 3 12 := rfl
theorem k_L_reads_12 {g : Nat → Nat} {B : Nat} {s : Nat → Int32} {ss : Nat} {T : Nat → Int32} {n : Nat} {f : Nat → Int32} (ca : Nat → ClassId) : k_L_reads g B s ss T n f ca 12 = i_aload 0 13 := rfl
theorem k_L_reads_13 {g : Nat → Nat} {B : Nat} {s : Nat → Int32} {ss : Nat} {T : Nat → Int32} {n : Nat} {f : Nat → Int32} (ca : Nat → ClassId) : k_L_reads g B s ss T n f ca 13 = i_push (.int 4) 14 := rfl
theorem k_L_reads_14 {g : Nat → Nat} {B : Nat} {s : Nat → Int32} {ss : Nat} {T : Nat → Int32} {n : Nat} {f : Nat → Int32} (ca : Nat → ClassId) : k_L_reads g B s ss T n f ca 14 = i_callV 7 1 0 0 0 0 (sq_count g B s ss T n f ca) 17 := rfl
theorem k_L_reads_17 {g : Nat → Nat} {B : Nat} {s : Nat → Int32} {ss : Nat} {T : Nat → Int32} {n : Nat} {f : Nat → Int32} (ca : Nat → ClassId) : k_L_reads g B s ss T n f ca 17 = i_istore 4 19 := rfl
theorem k_L_reads_19 {g : Nat → Nat} {B : Nat} {s : Nat → Int32} {ss : Nat} {T : Nat → Int32} {n : Nat} {f : Nat → Int32} (ca : Nat → ClassId) : k_L_reads g B s ss T n f ca 19 = i_aload 0 20 := rfl
theorem k_L_reads_20 {g : Nat → Nat} {B : Nat} {s : Nat → Int32} {ss : Nat} {T : Nat → Int32} {n : Nat} {f : Nat → Int32} (ca : Nat → ClassId) : k_L_reads g B s ss T n f ca 20 = i_iload 1 21 := rfl
theorem k_L_reads_21 {g : Nat → Nat} {B : Nat} {s : Nat → Int32} {ss : Nat} {T : Nat → Int32} {n : Nat} {f : Nat → Int32} (ca : Nat → ClassId) : k_L_reads g B s ss T n f ca 21 = i_callV 7 1 0 0 0 0 (sp_X7_read ca) 24 := rfl
theorem k_L_reads_24 {g : Nat → Nat} {B : Nat} {s : Nat → Int32} {ss : Nat} {T : Nat → Int32} {n : Nat} {f : Nat → Int32} (ca : Nat → ClassId) : k_L_reads g B s ss T n f ca 24 = i_istore 5 26 := rfl
theorem k_L_reads_26 {g : Nat → Nat} {B : Nat} {s : Nat → Int32} {ss : Nat} {T : Nat → Int32} {n : Nat} {f : Nat → Int32} (ca : Nat → ClassId) : k_L_reads g B s ss T n f ca 26 = i_iload 2 27 := rfl
theorem k_L_reads_27 {g : Nat → Nat} {B : Nat} {s : Nat → Int32} {ss : Nat} {T : Nat → Int32} {n : Nat} {f : Nat → Int32} (ca : Nat → ClassId) : k_L_reads g B s ss T n f ca 27 = i_push (.int (-10000004)) 29 := rfl
theorem k_L_reads_29 {g : Nat → Nat} {B : Nat} {s : Nat → Int32} {ss : Nat} {T : Nat → Int32} {n : Nat} {f : Nat → Int32} (ca : Nat → ClassId) : k_L_reads g B s ss T n f ca 29 = i_icmp (fun x y => ¬ x = y) 77 32 := rfl
theorem k_L_reads_32 {g : Nat → Nat} {B : Nat} {s : Nat → Int32} {ss : Nat} {T : Nat → Int32} {n : Nat} {f : Nat → Int32} (ca : Nat → ClassId) : k_L_reads g B s ss T n f ca 32 = i_iload 3 33 := rfl
theorem k_L_reads_33 {g : Nat → Nat} {B : Nat} {s : Nat → Int32} {ss : Nat} {T : Nat → Int32} {n : Nat} {f : Nat → Int32} (ca : Nat → ClassId) : k_L_reads g B s ss T n f ca 33 = i_push (.int (-10000004)) 35 := rfl
theorem k_L_reads_35 {g : Nat → Nat} {B : Nat} {s : Nat → Int32} {ss : Nat} {T : Nat → Int32} {n : Nat} {f : Nat → Int32} (ca : Nat → ClassId) : k_L_reads g B s ss T n f ca 35 = i_icmp (fun x y => ¬ x = y) 77 38 := rfl
theorem k_L_reads_38 {g : Nat → Nat} {B : Nat} {s : Nat → Int32} {ss : Nat} {T : Nat → Int32} {n : Nat} {f : Nat → Int32} (ca : Nat → ClassId) : k_L_reads g B s ss T n f ca 38 = i_iload 4 40 := rfl
theorem k_L_reads_40 {g : Nat → Nat} {B : Nat} {s : Nat → Int32} {ss : Nat} {T : Nat → Int32} {n : Nat} {f : Nat → Int32} (ca : Nat → ClassId) : k_L_reads g B s ss T n f ca 40 = i_if (fun x => ¬ x = 0) 51 43 := rfl
theorem k_L_reads_43 {g : Nat → Nat} {B : Nat} {s : Nat → Int32} {ss : Nat} {T : Nat → Int32} {n : Nat} {f : Nat → Int32} (ca : Nat → ClassId) : k_L_reads g B s ss T n f ca 43 = i_iload 5 45 := rfl
theorem k_L_reads_45 {g : Nat → Nat} {B : Nat} {s : Nat → Int32} {ss : Nat} {T : Nat → Int32} {n : Nat} {f : Nat → Int32} (ca : Nat → ClassId) : k_L_reads g B s ss T n f ca 45 = i_if (fun x => ¬ x = 0) 77 48 := rfl
theorem k_L_reads_48 {g : Nat → Nat} {B : Nat} {s : Nat → Int32} {ss : Nat} {T : Nat → Int32} {n : Nat} {f : Nat → Int32} (ca : Nat → ClassId) : k_L_reads g B s ss T n f ca 48 = i_goto 62 := rfl
theorem k_L_reads_51 {g : Nat → Nat} {B : Nat} {s : Nat → Int32} {ss : Nat} {T : Nat → Int32} {n : Nat} {f : Nat → Int32} (ca : Nat → ClassId) : k_L_reads g B s ss T n f ca 51 = i_push (.int 4) 52 := rfl
theorem k_L_reads_52 {g : Nat → Nat} {B : Nat} {s : Nat → Int32} {ss : Nat} {T : Nat → Int32} {n : Nat} {f : Nat → Int32} (ca : Nat → ClassId) : k_L_reads g B s ss T n f ca 52 = i_iload 5 54 := rfl
theorem k_L_reads_54 {g : Nat → Nat} {B : Nat} {s : Nat → Int32} {ss : Nat} {T : Nat → Int32} {n : Nat} {f : Nat → Int32} (ca : Nat → ClassId) : k_L_reads g B s ss T n f ca 54 = i_bin (fun x y => x * y) 55 := rfl
theorem k_L_reads_55 {g : Nat → Nat} {B : Nat} {s : Nat → Int32} {ss : Nat} {T : Nat → Int32} {n : Nat} {f : Nat → Int32} (ca : Nat → ClassId) : k_L_reads g B s ss T n f ca 55 = i_iload 4 57 := rfl
theorem k_L_reads_57 {g : Nat → Nat} {B : Nat} {s : Nat → Int32} {ss : Nat} {T : Nat → Int32} {n : Nat} {f : Nat → Int32} (ca : Nat → ClassId) : k_L_reads g B s ss T n f ca 57 = i_push (.int 1) 58 := rfl
theorem k_L_reads_58 {g : Nat → Nat} {B : Nat} {s : Nat → Int32} {ss : Nat} {T : Nat → Int32} {n : Nat} {f : Nat → Int32} (ca : Nat → ClassId) : k_L_reads g B s ss T n f ca 58 = i_bin (fun x y => x + y) 59 := rfl
theorem k_L_reads_59 {g : Nat → Nat} {B : Nat} {s : Nat → Int32} {ss : Nat} {T : Nat → Int32} {n : Nat} {f : Nat → Int32} (ca : Nat → ClassId) : k_L_reads g B s ss T n f ca 59 = i_icmp (fun x y => ¬ x = y) 77 62 := rfl
theorem k_L_reads_62 {g : Nat → Nat} {B : Nat} {s : Nat → Int32} {ss : Nat} {T : Nat → Int32} {n : Nat} {f : Nat → Int32} (ca : Nat → ClassId) : k_L_reads g B s ss T n f ca 62 = i_aload 0 63 := rfl
theorem k_L_reads_63 {g : Nat → Nat} {B : Nat} {s : Nat → Int32} {ss : Nat} {T : Nat → Int32} {n : Nat} {f : Nat → Int32} (ca : Nat → ClassId) : k_L_reads g B s ss T n f ca 63 = i_iload 1 64 := rfl
theorem k_L_reads_64 {g : Nat → Nat} {B : Nat} {s : Nat → Int32} {ss : Nat} {T : Nat → Int32} {n : Nat} {f : Nat → Int32} (ca : Nat → ClassId) : k_L_reads g B s ss T n f ca 64 = i_push (.int 0) 65 := rfl
theorem k_L_reads_65 {g : Nat → Nat} {B : Nat} {s : Nat → Int32} {ss : Nat} {T : Nat → Int32} {n : Nat} {f : Nat → Int32} (ca : Nat → ClassId) : k_L_reads g B s ss T n f ca 65 = i_callV 7 2 0 0 0 0 (sp_X7_stripOf ca) 68 := rfl
theorem k_L_reads_68 {g : Nat → Nat} {B : Nat} {s : Nat → Int32} {ss : Nat} {T : Nat → Int32} {n : Nat} {f : Nat → Int32} (ca : Nat → ClassId) : k_L_reads g B s ss T n f ca 68 = i_iload 5 70 := rfl
theorem k_L_reads_70 {g : Nat → Nat} {B : Nat} {s : Nat → Int32} {ss : Nat} {T : Nat → Int32} {n : Nat} {f : Nat → Int32} (ca : Nat → ClassId) : k_L_reads g B s ss T n f ca 70 = i_icmp (fun x y => ¬ x = y) 77 73 := rfl
theorem k_L_reads_73 {g : Nat → Nat} {B : Nat} {s : Nat → Int32} {ss : Nat} {T : Nat → Int32} {n : Nat} {f : Nat → Int32} (ca : Nat → ClassId) : k_L_reads g B s ss T n f ca 73 = i_push (.int 1) 74 := rfl
theorem k_L_reads_74 {g : Nat → Nat} {B : Nat} {s : Nat → Int32} {ss : Nat} {T : Nat → Int32} {n : Nat} {f : Nat → Int32} (ca : Nat → ClassId) : k_L_reads g B s ss T n f ca 74 = i_goto 78 := rfl
theorem k_L_reads_77 {g : Nat → Nat} {B : Nat} {s : Nat → Int32} {ss : Nat} {T : Nat → Int32} {n : Nat} {f : Nat → Int32} (ca : Nat → ClassId) : k_L_reads g B s ss T n f ca 77 = i_push (.int 0) 78 := rfl
theorem k_L_reads_78 {g : Nat → Nat} {B : Nat} {s : Nat → Int32} {ss : Nat} {T : Nat → Int32} {n : Nat} {f : Nat → Int32} (ca : Nat → ClassId) : k_L_reads g B s ss T n f ca 78 = i_istore 6 80 := rfl
theorem k_L_reads_80 {g : Nat → Nat} {B : Nat} {s : Nat → Int32} {ss : Nat} {T : Nat → Int32} {n : Nat} {f : Nat → Int32} (ca : Nat → ClassId) : k_L_reads g B s ss T n f ca 80 = i_iload 2 81 := rfl
theorem k_L_reads_81 {g : Nat → Nat} {B : Nat} {s : Nat → Int32} {ss : Nat} {T : Nat → Int32} {n : Nat} {f : Nat → Int32} (ca : Nat → ClassId) : k_L_reads g B s ss T n f ca 81 = i_if (fun x => x < 0) 110 84 := rfl
theorem k_L_reads_84 {g : Nat → Nat} {B : Nat} {s : Nat → Int32} {ss : Nat} {T : Nat → Int32} {n : Nat} {f : Nat → Int32} (ca : Nat → ClassId) : k_L_reads g B s ss T n f ca 84 = i_iload 2 85 := rfl
theorem k_L_reads_85 {g : Nat → Nat} {B : Nat} {s : Nat → Int32} {ss : Nat} {T : Nat → Int32} {n : Nat} {f : Nat → Int32} (ca : Nat → ClassId) : k_L_reads g B s ss T n f ca 85 = i_iload 4 87 := rfl
theorem k_L_reads_87 {g : Nat → Nat} {B : Nat} {s : Nat → Int32} {ss : Nat} {T : Nat → Int32} {n : Nat} {f : Nat → Int32} (ca : Nat → ClassId) : k_L_reads g B s ss T n f ca 87 = i_icmp (fun x y => y < x) 110 90 := rfl
theorem k_L_reads_90 {g : Nat → Nat} {B : Nat} {s : Nat → Int32} {ss : Nat} {T : Nat → Int32} {n : Nat} {f : Nat → Int32} (ca : Nat → ClassId) : k_L_reads g B s ss T n f ca 90 = i_iload 3 91 := rfl
theorem k_L_reads_91 {g : Nat → Nat} {B : Nat} {s : Nat → Int32} {ss : Nat} {T : Nat → Int32} {n : Nat} {f : Nat → Int32} (ca : Nat → ClassId) : k_L_reads g B s ss T n f ca 91 = i_if (fun x => x ≤ 0) 110 94 := rfl
theorem k_L_reads_94 {g : Nat → Nat} {B : Nat} {s : Nat → Int32} {ss : Nat} {T : Nat → Int32} {n : Nat} {f : Nat → Int32} (ca : Nat → ClassId) : k_L_reads g B s ss T n f ca 94 = i_iload 3 95 := rfl
theorem k_L_reads_95 {g : Nat → Nat} {B : Nat} {s : Nat → Int32} {ss : Nat} {T : Nat → Int32} {n : Nat} {f : Nat → Int32} (ca : Nat → ClassId) : k_L_reads g B s ss T n f ca 95 = i_push (.int 3) 96 := rfl
theorem k_L_reads_96 {g : Nat → Nat} {B : Nat} {s : Nat → Int32} {ss : Nat} {T : Nat → Int32} {n : Nat} {f : Nat → Int32} (ca : Nat → ClassId) : k_L_reads g B s ss T n f ca 96 = i_icmp (fun x y => y ≤ x) 110 99 := rfl
theorem k_L_reads_99 {g : Nat → Nat} {B : Nat} {s : Nat → Int32} {ss : Nat} {T : Nat → Int32} {n : Nat} {f : Nat → Int32} (ca : Nat → ClassId) : k_L_reads g B s ss T n f ca 99 = i_iload 5 101 := rfl
theorem k_L_reads_101 {g : Nat → Nat} {B : Nat} {s : Nat → Int32} {ss : Nat} {T : Nat → Int32} {n : Nat} {f : Nat → Int32} (ca : Nat → ClassId) : k_L_reads g B s ss T n f ca 101 = i_push (.int (-10000002)) 103 := rfl
theorem k_L_reads_103 {g : Nat → Nat} {B : Nat} {s : Nat → Int32} {ss : Nat} {T : Nat → Int32} {n : Nat} {f : Nat → Int32} (ca : Nat → ClassId) : k_L_reads g B s ss T n f ca 103 = i_icmp (fun x y => ¬ x = y) 110 106 := rfl
theorem k_L_reads_106 {g : Nat → Nat} {B : Nat} {s : Nat → Int32} {ss : Nat} {T : Nat → Int32} {n : Nat} {f : Nat → Int32} (ca : Nat → ClassId) : k_L_reads g B s ss T n f ca 106 = i_push (.int 1) 107 := rfl
theorem k_L_reads_107 {g : Nat → Nat} {B : Nat} {s : Nat → Int32} {ss : Nat} {T : Nat → Int32} {n : Nat} {f : Nat → Int32} (ca : Nat → ClassId) : k_L_reads g B s ss T n f ca 107 = i_goto 111 := rfl
theorem k_L_reads_110 {g : Nat → Nat} {B : Nat} {s : Nat → Int32} {ss : Nat} {T : Nat → Int32} {n : Nat} {f : Nat → Int32} (ca : Nat → ClassId) : k_L_reads g B s ss T n f ca 110 = i_push (.int 0) 111 := rfl
theorem k_L_reads_111 {g : Nat → Nat} {B : Nat} {s : Nat → Int32} {ss : Nat} {T : Nat → Int32} {n : Nat} {f : Nat → Int32} (ca : Nat → ClassId) : k_L_reads g B s ss T n f ca 111 = i_istore 7 113 := rfl
theorem k_L_reads_113 {g : Nat → Nat} {B : Nat} {s : Nat → Int32} {ss : Nat} {T : Nat → Int32} {n : Nat} {f : Nat → Int32} (ca : Nat → ClassId) : k_L_reads g B s ss T n f ca 113 = i_iload 6 115 := rfl
theorem k_L_reads_115 {g : Nat → Nat} {B : Nat} {s : Nat → Int32} {ss : Nat} {T : Nat → Int32} {n : Nat} {f : Nat → Int32} (ca : Nat → ClassId) : k_L_reads g B s ss T n f ca 115 = i_if (fun x => ¬ x = 0) 123 118 := rfl
theorem k_L_reads_118 {g : Nat → Nat} {B : Nat} {s : Nat → Int32} {ss : Nat} {T : Nat → Int32} {n : Nat} {f : Nat → Int32} (ca : Nat → ClassId) : k_L_reads g B s ss T n f ca 118 = i_iload 7 120 := rfl
theorem k_L_reads_120 {g : Nat → Nat} {B : Nat} {s : Nat → Int32} {ss : Nat} {T : Nat → Int32} {n : Nat} {f : Nat → Int32} (ca : Nat → ClassId) : k_L_reads g B s ss T n f ca 120 = i_if (fun x => x = 0) 137 123 := rfl
theorem k_L_reads_123 {g : Nat → Nat} {B : Nat} {s : Nat → Int32} {ss : Nat} {T : Nat → Int32} {n : Nat} {f : Nat → Int32} (ca : Nat → ClassId) : k_L_reads g B s ss T n f ca 123 = i_aload 0 124 := rfl
theorem k_L_reads_124 {g : Nat → Nat} {B : Nat} {s : Nat → Int32} {ss : Nat} {T : Nat → Int32} {n : Nat} {f : Nat → Int32} (ca : Nat → ClassId) : k_L_reads g B s ss T n f ca 124 = i_push (.int 4) 125 := rfl
theorem k_L_reads_125 {g : Nat → Nat} {B : Nat} {s : Nat → Int32} {ss : Nat} {T : Nat → Int32} {n : Nat} {f : Nat → Int32} (ca : Nat → ClassId) : k_L_reads g B s ss T n f ca 125 = i_callV 7 1 0 0 0 0 (sp_X7_count ca) 128 := rfl
theorem k_L_reads_128 {g : Nat → Nat} {B : Nat} {s : Nat → Int32} {ss : Nat} {T : Nat → Int32} {n : Nat} {f : Nat → Int32} (ca : Nat → ClassId) : k_L_reads g B s ss T n f ca 128 = i_iload 4 130 := rfl
theorem k_L_reads_130 {g : Nat → Nat} {B : Nat} {s : Nat → Int32} {ss : Nat} {T : Nat → Int32} {n : Nat} {f : Nat → Int32} (ca : Nat → ClassId) : k_L_reads g B s ss T n f ca 130 = i_icmp (fun x y => ¬ x = y) 137 133 := rfl
theorem k_L_reads_133 {g : Nat → Nat} {B : Nat} {s : Nat → Int32} {ss : Nat} {T : Nat → Int32} {n : Nat} {f : Nat → Int32} (ca : Nat → ClassId) : k_L_reads g B s ss T n f ca 133 = i_push (.int 1) 134 := rfl
theorem k_L_reads_134 {g : Nat → Nat} {B : Nat} {s : Nat → Int32} {ss : Nat} {T : Nat → Int32} {n : Nat} {f : Nat → Int32} (ca : Nat → ClassId) : k_L_reads g B s ss T n f ca 134 = i_goto 138 := rfl
theorem k_L_reads_137 {g : Nat → Nat} {B : Nat} {s : Nat → Int32} {ss : Nat} {T : Nat → Int32} {n : Nat} {f : Nat → Int32} (ca : Nat → ClassId) : k_L_reads g B s ss T n f ca 137 = i_push (.int 0) 138 := rfl
theorem k_L_reads_138 {g : Nat → Nat} {B : Nat} {s : Nat → Int32} {ss : Nat} {T : Nat → Int32} {n : Nat} {f : Nat → Int32} (ca : Nat → ClassId) : k_L_reads g B s ss T n f ca 138 = i_zret := rfl
theorem flt_no {f : Nat → Int32} {n : Nat} {x : Int32} (hx : isIn x 0 1 = true) (h : placeF f n = -1) : aFaultC f n x = -10000004 := by
  unfold aFaultC
  rw [if_pos hx, if_pos h]
theorem flt_0 {f : Nat → Int32} {n p : Nat} (hp : p < 2 ^ 31) (h : placeF f n = nI p) : aFaultC f n 0 = nI p := by
  unfold aFaultC
  rw [if_pos (by decide), if_neg (by rw [h]; exact m1_nI hp), if_pos rfl, h]
theorem flt_1 {f : Nat → Int32} {n p : Nat} (hp : p < 2 ^ 31) (h : placeF f n = nI p) : aFaultC f n 1 = 1 ∨ aFaultC f n 1 = 2 := by
  unfold aFaultC
  rw [if_pos (by decide), if_neg (by rw [h]; exact m1_nI hp), if_neg (by decide)]
  split
  · split
    · exact Or.inl rfl
    · exact Or.inr rfl
  · exact Or.inl rfl
theorem nI_m4 {p : Nat} (hp : p < 2 ^ 31) : ¬ nI p = -10000004 := fun z => by
  have e := congrArg Int32.toInt z
  rw [nI_toInt hp] at e
  have c : (-10000004 : Int32).toInt = -10000004 := rfl
  omega
set_option maxHeartbeats 4000000 in
set_option maxRecDepth 20000 in
theorem ok_L_reads (l : Launch) (D : va_G) (ca : Nat → ClassId) : OkAll l D ca yL_reads cL_reads 8 (some .boolean) 6 0 0 (sp_L_reads ca) := by
  intro av h post hs
  obtain ⟨g, B, s, ss, T, n, f, k, hk, rfl, H, hs⟩ := hs
  obtain ⟨fs, c7⟩ := H.cell
  have n60 := H.n60
  refine okM_of (t_L_reads g B s ss T n f) (by decide +kernel) (c1_ref (c1_int c1_nil)) (Nat.le_of_ble_eq_true rfl) ?_
  intro K go
  rcases place_c (f := f) n60 with ⟨e, hc, h32⟩ | ⟨p, hp, e⟩
  · have f0 := flt_no (x := 0) (by decide) e
    have f1 := flt_no (x := 1) (by decide) e
    have er : aReadC f n (nI k) = nI ((n + 1) / 4) := by
      unfold aReadC
      rw [if_pos (in02 hk), if_pos e]
    have vr : vRead f n (nI k) = true := by
      unfold vRead
      rw [in02 hk, e]
      rfl
    refine goN go (stp [24]) 160 _ _ _ _ _ _ (fun F hF hF0 => ?_)
    simp only [hF, hF0, ite_not, i_push, i_iload, i_lload, i_aload, i_istore, i_astore, i_lstore, i_iinc, i_bin, i_dv, i_un, i_lbin, i_lsh, i_i2l, i_l2i, i_lcmp, i_dup, i_dup2, i_pop, i_if, i_icmp, i_goto, swG, i_sw, i_getf, i_puti, i_putz, i_putr, i_ald, i_lald, i_aald, i_ast, i_last, i_aast, i_alen, i_new, i_newi, i_newl, i_newq, i_oinit, i_ret, i_zret, i_lret, i_vret, catS, tk, rpush, isO, i_m1, i_m2, i_acopy, i_callV, i_callS, KRet, lget, lput, lputL, lcl0, isL, lv0, List.map_cons, List.map_nil, List.length_cons, List.length_nil, List.cons_append, List.nil_append, Nat.reduceAdd, Nat.reduceSub, Nat.reduceLeDiff, List.replicate_succ, List.replicate_zero, List.getElem?_cons_succ, List.getElem?_cons_zero, List.set_cons_succ, List.set_cons_zero, true_and, and_true, if_true, if_false, ↓reduceIte, Nat.le_refl, Value.category, va_up_app, eq_self, stp, Nat.reduceBEq, Bool.or_false, Bool.false_or, Bool.true_or, Bool.or_true, or_true, true_or, bx_uu, implies_true, true_implies, not_true, not_false_eq_true, false_implies, and_self, Nat.reduceLT, Int32.reduceAdd, Int32.reduceSub, Int32.reduceMul, Int32.reduceLE, Int32.reduceLT, Int32.reduceToNatClampNeg, va_rf_some, Bool.false_eq_true, k_L_reads_0 ca, k_L_reads_1 ca, k_L_reads_2 ca, k_L_reads_5 ca, k_L_reads_6 ca, k_L_reads_7 ca, k_L_reads_8 ca, k_L_reads_11 ca, k_L_reads_12 ca, k_L_reads_13 ca, k_L_reads_14 ca, k_L_reads_17 ca, k_L_reads_19 ca, k_L_reads_20 ca, k_L_reads_21 ca, k_L_reads_24 ca, k_L_reads_26 ca, k_L_reads_27 ca, k_L_reads_29 ca, k_L_reads_32 ca, k_L_reads_33 ca, k_L_reads_35 ca, k_L_reads_38 ca, k_L_reads_40 ca, k_L_reads_43 ca, k_L_reads_45 ca, k_L_reads_48 ca, k_L_reads_51 ca, k_L_reads_52 ca, k_L_reads_54 ca, k_L_reads_55 ca, k_L_reads_57 ca, k_L_reads_58 ca, k_L_reads_59 ca, k_L_reads_62 ca, k_L_reads_63 ca, k_L_reads_64 ca, k_L_reads_65 ca, k_L_reads_68 ca, k_L_reads_70 ca, k_L_reads_73 ca, k_L_reads_74 ca, k_L_reads_77 ca, k_L_reads_78 ca, k_L_reads_80 ca, k_L_reads_81 ca, k_L_reads_84 ca, k_L_reads_85 ca, k_L_reads_87 ca, k_L_reads_90 ca, k_L_reads_91 ca, k_L_reads_94 ca, k_L_reads_95 ca, k_L_reads_96 ca, k_L_reads_99 ca, k_L_reads_101 ca, k_L_reads_103 ca, k_L_reads_106 ca, k_L_reads_107 ca, k_L_reads_110 ca, k_L_reads_111 ca, k_L_reads_113 ca, k_L_reads_115 ca, k_L_reads_118 ca, k_L_reads_120 ca, k_L_reads_123 ca, k_L_reads_124 ca, k_L_reads_125 ca, k_L_reads_128 ca, k_L_reads_130 ca, k_L_reads_133 ca, k_L_reads_134 ca, k_L_reads_137 ca, k_L_reads_138 ca, c7, H, sq_fault, sq_count, f0, f1, ct4]
    try clear hF hF0 F
    refine H.read _ (fun h1 s' ss' T' H1 hx => ?_)
    rw [er]
    show K 0 0 24 _ [.int (nI ((n + 1) / 4))] h1
    obtain ⟨fs1, c71⟩ := H1.cell
    have ei : s' (10 + 32 * k) = nI ((n + 1) / 4) := by
      rcases hx with ⟨z, -⟩ | ⟨-, rfl, -⟩
      · rw [vr] at z
        cases z
      · rw [c3k hk]
        exact rdC_0 _
    have es := st0 (s := s') hk
    rw [ei] at es
    have k0 := hs h1 s' ss' T' H1 hx.nw
    by_cases q : n = 0
    · subst q
      have z0 : nI ((0 + 1) / 4) = 0 := rfl
      rw [z0] at es ⊢
      have n0 : nI 0 = 0 := rfl
      refine goN go (stp [68]) 160 _ _ _ _ _ _ (fun F hF hF0 => ?_)
      simp only [hF, hF0, ite_not, i_push, i_iload, i_lload, i_aload, i_istore, i_astore, i_lstore, i_iinc, i_bin, i_dv, i_un, i_lbin, i_lsh, i_i2l, i_l2i, i_lcmp, i_dup, i_dup2, i_pop, i_if, i_icmp, i_goto, swG, i_sw, i_getf, i_puti, i_putz, i_putr, i_ald, i_lald, i_aald, i_ast, i_last, i_aast, i_alen, i_new, i_newi, i_newl, i_newq, i_oinit, i_ret, i_zret, i_lret, i_vret, catS, tk, rpush, isO, i_m1, i_m2, i_acopy, i_callV, i_callS, KRet, lget, lput, lputL, lcl0, isL, lv0, List.map_cons, List.map_nil, List.length_cons, List.length_nil, List.cons_append, List.nil_append, Nat.reduceAdd, Nat.reduceSub, Nat.reduceLeDiff, List.replicate_succ, List.replicate_zero, List.getElem?_cons_succ, List.getElem?_cons_zero, List.set_cons_succ, List.set_cons_zero, true_and, and_true, if_true, if_false, ↓reduceIte, Nat.le_refl, Value.category, va_up_app, eq_self, stp, Nat.reduceBEq, Bool.or_false, Bool.false_or, Bool.true_or, Bool.or_true, or_true, true_or, bx_uu, implies_true, true_implies, not_true, not_false_eq_true, false_implies, and_self, Nat.reduceLT, Int32.reduceAdd, Int32.reduceSub, Int32.reduceMul, Int32.reduceLE, Int32.reduceLT, Int32.reduceToNatClampNeg, va_rf_some, Bool.false_eq_true, k_L_reads_0 ca, k_L_reads_1 ca, k_L_reads_2 ca, k_L_reads_5 ca, k_L_reads_6 ca, k_L_reads_7 ca, k_L_reads_8 ca, k_L_reads_11 ca, k_L_reads_12 ca, k_L_reads_13 ca, k_L_reads_14 ca, k_L_reads_17 ca, k_L_reads_19 ca, k_L_reads_20 ca, k_L_reads_21 ca, k_L_reads_24 ca, k_L_reads_26 ca, k_L_reads_27 ca, k_L_reads_29 ca, k_L_reads_32 ca, k_L_reads_33 ca, k_L_reads_35 ca, k_L_reads_38 ca, k_L_reads_40 ca, k_L_reads_43 ca, k_L_reads_45 ca, k_L_reads_48 ca, k_L_reads_51 ca, k_L_reads_52 ca, k_L_reads_54 ca, k_L_reads_55 ca, k_L_reads_57 ca, k_L_reads_58 ca, k_L_reads_59 ca, k_L_reads_62 ca, k_L_reads_63 ca, k_L_reads_64 ca, k_L_reads_65 ca, k_L_reads_68 ca, k_L_reads_70 ca, k_L_reads_73 ca, k_L_reads_74 ca, k_L_reads_77 ca, k_L_reads_78 ca, k_L_reads_80 ca, k_L_reads_81 ca, k_L_reads_84 ca, k_L_reads_85 ca, k_L_reads_87 ca, k_L_reads_90 ca, k_L_reads_91 ca, k_L_reads_94 ca, k_L_reads_95 ca, k_L_reads_96 ca, k_L_reads_99 ca, k_L_reads_101 ca, k_L_reads_103 ca, k_L_reads_106 ca, k_L_reads_107 ca, k_L_reads_110 ca, k_L_reads_111 ca, k_L_reads_113 ca, k_L_reads_115 ca, k_L_reads_118 ca, k_L_reads_120 ca, k_L_reads_123 ca, k_L_reads_124 ca, k_L_reads_125 ca, k_L_reads_128 ca, k_L_reads_130 ca, k_L_reads_133 ca, k_L_reads_134 ca, k_L_reads_137 ca, k_L_reads_138 ca, c71, f0, f1, n0]
      try clear hF hF0 F
      refine H1.str _ _ ?_
      rw [es]
      show K 0 0 68 _ [.int 0] h1
      refine goN go (stp [128]) 160 _ _ _ _ _ _ (fun F hF hF0 => ?_)
      simp only [hF, hF0, ite_not, i_push, i_iload, i_lload, i_aload, i_istore, i_astore, i_lstore, i_iinc, i_bin, i_dv, i_un, i_lbin, i_lsh, i_i2l, i_l2i, i_lcmp, i_dup, i_dup2, i_pop, i_if, i_icmp, i_goto, swG, i_sw, i_getf, i_puti, i_putz, i_putr, i_ald, i_lald, i_aald, i_ast, i_last, i_aast, i_alen, i_new, i_newi, i_newl, i_newq, i_oinit, i_ret, i_zret, i_lret, i_vret, catS, tk, rpush, isO, i_m1, i_m2, i_acopy, i_callV, i_callS, KRet, lget, lput, lputL, lcl0, isL, lv0, List.map_cons, List.map_nil, List.length_cons, List.length_nil, List.cons_append, List.nil_append, Nat.reduceAdd, Nat.reduceSub, Nat.reduceLeDiff, List.replicate_succ, List.replicate_zero, List.getElem?_cons_succ, List.getElem?_cons_zero, List.set_cons_succ, List.set_cons_zero, true_and, and_true, if_true, if_false, ↓reduceIte, Nat.le_refl, Value.category, va_up_app, eq_self, stp, Nat.reduceBEq, Bool.or_false, Bool.false_or, Bool.true_or, Bool.or_true, or_true, true_or, bx_uu, implies_true, true_implies, not_true, not_false_eq_true, false_implies, and_self, Nat.reduceLT, Int32.reduceAdd, Int32.reduceSub, Int32.reduceMul, Int32.reduceLE, Int32.reduceLT, Int32.reduceToNatClampNeg, va_rf_some, Bool.false_eq_true, k_L_reads_0 ca, k_L_reads_1 ca, k_L_reads_2 ca, k_L_reads_5 ca, k_L_reads_6 ca, k_L_reads_7 ca, k_L_reads_8 ca, k_L_reads_11 ca, k_L_reads_12 ca, k_L_reads_13 ca, k_L_reads_14 ca, k_L_reads_17 ca, k_L_reads_19 ca, k_L_reads_20 ca, k_L_reads_21 ca, k_L_reads_24 ca, k_L_reads_26 ca, k_L_reads_27 ca, k_L_reads_29 ca, k_L_reads_32 ca, k_L_reads_33 ca, k_L_reads_35 ca, k_L_reads_38 ca, k_L_reads_40 ca, k_L_reads_43 ca, k_L_reads_45 ca, k_L_reads_48 ca, k_L_reads_51 ca, k_L_reads_52 ca, k_L_reads_54 ca, k_L_reads_55 ca, k_L_reads_57 ca, k_L_reads_58 ca, k_L_reads_59 ca, k_L_reads_62 ca, k_L_reads_63 ca, k_L_reads_64 ca, k_L_reads_65 ca, k_L_reads_68 ca, k_L_reads_70 ca, k_L_reads_73 ca, k_L_reads_74 ca, k_L_reads_77 ca, k_L_reads_78 ca, k_L_reads_80 ca, k_L_reads_81 ca, k_L_reads_84 ca, k_L_reads_85 ca, k_L_reads_87 ca, k_L_reads_90 ca, k_L_reads_91 ca, k_L_reads_94 ca, k_L_reads_95 ca, k_L_reads_96 ca, k_L_reads_99 ca, k_L_reads_101 ca, k_L_reads_103 ca, k_L_reads_106 ca, k_L_reads_107 ca, k_L_reads_110 ca, k_L_reads_111 ca, k_L_reads_113 ca, k_L_reads_115 ca, k_L_reads_118 ca, k_L_reads_120 ca, k_L_reads_123 ca, k_L_reads_124 ca, k_L_reads_125 ca, k_L_reads_128 ca, k_L_reads_130 ca, k_L_reads_133 ca, k_L_reads_134 ca, k_L_reads_137 ca, k_L_reads_138 ca, c71, one0]
      try clear hF hF0 F
      refine H1.cnt _ ?_
      rw [ct4]
      show K 0 0 128 _ [.int (nI 0)] h1
      refine goN go (stp []) 160 _ _ _ _ _ _ (fun F hF hF0 => ?_)
      simp only [hF, hF0, ite_not, i_push, i_iload, i_lload, i_aload, i_istore, i_astore, i_lstore, i_iinc, i_bin, i_dv, i_un, i_lbin, i_lsh, i_i2l, i_l2i, i_lcmp, i_dup, i_dup2, i_pop, i_if, i_icmp, i_goto, swG, i_sw, i_getf, i_puti, i_putz, i_putr, i_ald, i_lald, i_aald, i_ast, i_last, i_aast, i_alen, i_new, i_newi, i_newl, i_newq, i_oinit, i_ret, i_zret, i_lret, i_vret, catS, tk, rpush, isO, i_m1, i_m2, i_acopy, i_callV, i_callS, KRet, lget, lput, lputL, lcl0, isL, lv0, List.map_cons, List.map_nil, List.length_cons, List.length_nil, List.cons_append, List.nil_append, Nat.reduceAdd, Nat.reduceSub, Nat.reduceLeDiff, List.replicate_succ, List.replicate_zero, List.getElem?_cons_succ, List.getElem?_cons_zero, List.set_cons_succ, List.set_cons_zero, true_and, and_true, if_true, if_false, ↓reduceIte, Nat.le_refl, Value.category, va_up_app, eq_self, stp, Nat.reduceBEq, Bool.or_false, Bool.false_or, Bool.true_or, Bool.or_true, or_true, true_or, bx_uu, implies_true, true_implies, not_true, not_false_eq_true, false_implies, and_self, Nat.reduceLT, Int32.reduceAdd, Int32.reduceSub, Int32.reduceMul, Int32.reduceLE, Int32.reduceLT, Int32.reduceToNatClampNeg, va_rf_some, Bool.false_eq_true, k_L_reads_0 ca, k_L_reads_1 ca, k_L_reads_2 ca, k_L_reads_5 ca, k_L_reads_6 ca, k_L_reads_7 ca, k_L_reads_8 ca, k_L_reads_11 ca, k_L_reads_12 ca, k_L_reads_13 ca, k_L_reads_14 ca, k_L_reads_17 ca, k_L_reads_19 ca, k_L_reads_20 ca, k_L_reads_21 ca, k_L_reads_24 ca, k_L_reads_26 ca, k_L_reads_27 ca, k_L_reads_29 ca, k_L_reads_32 ca, k_L_reads_33 ca, k_L_reads_35 ca, k_L_reads_38 ca, k_L_reads_40 ca, k_L_reads_43 ca, k_L_reads_45 ca, k_L_reads_48 ca, k_L_reads_51 ca, k_L_reads_52 ca, k_L_reads_54 ca, k_L_reads_55 ca, k_L_reads_57 ca, k_L_reads_58 ca, k_L_reads_59 ca, k_L_reads_62 ca, k_L_reads_63 ca, k_L_reads_64 ca, k_L_reads_65 ca, k_L_reads_68 ca, k_L_reads_70 ca, k_L_reads_73 ca, k_L_reads_74 ca, k_L_reads_77 ca, k_L_reads_78 ca, k_L_reads_80 ca, k_L_reads_81 ca, k_L_reads_84 ca, k_L_reads_85 ca, k_L_reads_87 ca, k_L_reads_90 ca, k_L_reads_91 ca, k_L_reads_94 ca, k_L_reads_95 ca, k_L_reads_96 ca, k_L_reads_99 ca, k_L_reads_101 ca, k_L_reads_103 ca, k_L_reads_106 ca, k_L_reads_107 ca, k_L_reads_110 ca, k_L_reads_111 ca, k_L_reads_113 ca, k_L_reads_115 ca, k_L_reads_118 ca, k_L_reads_120 ca, k_L_reads_123 ca, k_L_reads_124 ca, k_L_reads_125 ca, k_L_reads_128 ca, k_L_reads_130 ca, k_L_reads_133 ca, k_L_reads_134 ca, k_L_reads_137 ca, k_L_reads_138 ca, one0, n0]
      try clear hF hF0 F
      exact k0
    · have h3 : n % 4 = 3 := by omega
      have en : (nI n = 0) = False := eq_false (fun z => q (by
        have e2 := congrArg Int32.toInt z
        rw [nI_toInt (by omega)] at e2
        have c : (0 : Int32).toInt = 0 := rfl
        omega))
      have e4 : 4 * nI ((n + 1) / 4) = nI n + 1 := by
        rw [show (4 : Int32) = nI 4 from rfl, pk_mul, show (1 : Int32) = nI 1 from rfl, nI_add]
        exact congrArg nI (by omega)
      refine goN go (stp [68]) 160 _ _ _ _ _ _ (fun F hF hF0 => ?_)
      simp only [hF, hF0, ite_not, i_push, i_iload, i_lload, i_aload, i_istore, i_astore, i_lstore, i_iinc, i_bin, i_dv, i_un, i_lbin, i_lsh, i_i2l, i_l2i, i_lcmp, i_dup, i_dup2, i_pop, i_if, i_icmp, i_goto, swG, i_sw, i_getf, i_puti, i_putz, i_putr, i_ald, i_lald, i_aald, i_ast, i_last, i_aast, i_alen, i_new, i_newi, i_newl, i_newq, i_oinit, i_ret, i_zret, i_lret, i_vret, catS, tk, rpush, isO, i_m1, i_m2, i_acopy, i_callV, i_callS, KRet, lget, lput, lputL, lcl0, isL, lv0, List.map_cons, List.map_nil, List.length_cons, List.length_nil, List.cons_append, List.nil_append, Nat.reduceAdd, Nat.reduceSub, Nat.reduceLeDiff, List.replicate_succ, List.replicate_zero, List.getElem?_cons_succ, List.getElem?_cons_zero, List.set_cons_succ, List.set_cons_zero, true_and, and_true, if_true, if_false, ↓reduceIte, Nat.le_refl, Value.category, va_up_app, eq_self, stp, Nat.reduceBEq, Bool.or_false, Bool.false_or, Bool.true_or, Bool.or_true, or_true, true_or, bx_uu, implies_true, true_implies, not_true, not_false_eq_true, false_implies, and_self, Nat.reduceLT, Int32.reduceAdd, Int32.reduceSub, Int32.reduceMul, Int32.reduceLE, Int32.reduceLT, Int32.reduceToNatClampNeg, va_rf_some, Bool.false_eq_true, k_L_reads_0 ca, k_L_reads_1 ca, k_L_reads_2 ca, k_L_reads_5 ca, k_L_reads_6 ca, k_L_reads_7 ca, k_L_reads_8 ca, k_L_reads_11 ca, k_L_reads_12 ca, k_L_reads_13 ca, k_L_reads_14 ca, k_L_reads_17 ca, k_L_reads_19 ca, k_L_reads_20 ca, k_L_reads_21 ca, k_L_reads_24 ca, k_L_reads_26 ca, k_L_reads_27 ca, k_L_reads_29 ca, k_L_reads_32 ca, k_L_reads_33 ca, k_L_reads_35 ca, k_L_reads_38 ca, k_L_reads_40 ca, k_L_reads_43 ca, k_L_reads_45 ca, k_L_reads_48 ca, k_L_reads_51 ca, k_L_reads_52 ca, k_L_reads_54 ca, k_L_reads_55 ca, k_L_reads_57 ca, k_L_reads_58 ca, k_L_reads_59 ca, k_L_reads_62 ca, k_L_reads_63 ca, k_L_reads_64 ca, k_L_reads_65 ca, k_L_reads_68 ca, k_L_reads_70 ca, k_L_reads_73 ca, k_L_reads_74 ca, k_L_reads_77 ca, k_L_reads_78 ca, k_L_reads_80 ca, k_L_reads_81 ca, k_L_reads_84 ca, k_L_reads_85 ca, k_L_reads_87 ca, k_L_reads_90 ca, k_L_reads_91 ca, k_L_reads_94 ca, k_L_reads_95 ca, k_L_reads_96 ca, k_L_reads_99 ca, k_L_reads_101 ca, k_L_reads_103 ca, k_L_reads_106 ca, k_L_reads_107 ca, k_L_reads_110 ca, k_L_reads_111 ca, k_L_reads_113 ca, k_L_reads_115 ca, k_L_reads_118 ca, k_L_reads_120 ca, k_L_reads_123 ca, k_L_reads_124 ca, k_L_reads_125 ca, k_L_reads_128 ca, k_L_reads_130 ca, k_L_reads_133 ca, k_L_reads_134 ca, k_L_reads_137 ca, k_L_reads_138 ca, c71, f0, f1, en, e4]
      try clear hF hF0 F
      refine H1.str _ _ ?_
      rw [es]
      show K 0 0 68 _ [.int (nI ((n + 1) / 4))] h1
      generalize nI ((n + 1) / 4) = td at *
      refine goN go (stp [128]) 160 _ _ _ _ _ _ (fun F hF hF0 => ?_)
      simp only [hF, hF0, ite_not, i_push, i_iload, i_lload, i_aload, i_istore, i_astore, i_lstore, i_iinc, i_bin, i_dv, i_un, i_lbin, i_lsh, i_i2l, i_l2i, i_lcmp, i_dup, i_dup2, i_pop, i_if, i_icmp, i_goto, swG, i_sw, i_getf, i_puti, i_putz, i_putr, i_ald, i_lald, i_aald, i_ast, i_last, i_aast, i_alen, i_new, i_newi, i_newl, i_newq, i_oinit, i_ret, i_zret, i_lret, i_vret, catS, tk, rpush, isO, i_m1, i_m2, i_acopy, i_callV, i_callS, KRet, lget, lput, lputL, lcl0, isL, lv0, List.map_cons, List.map_nil, List.length_cons, List.length_nil, List.cons_append, List.nil_append, Nat.reduceAdd, Nat.reduceSub, Nat.reduceLeDiff, List.replicate_succ, List.replicate_zero, List.getElem?_cons_succ, List.getElem?_cons_zero, List.set_cons_succ, List.set_cons_zero, true_and, and_true, if_true, if_false, ↓reduceIte, Nat.le_refl, Value.category, va_up_app, eq_self, stp, Nat.reduceBEq, Bool.or_false, Bool.false_or, Bool.true_or, Bool.or_true, or_true, true_or, bx_uu, implies_true, true_implies, not_true, not_false_eq_true, false_implies, and_self, Nat.reduceLT, Int32.reduceAdd, Int32.reduceSub, Int32.reduceMul, Int32.reduceLE, Int32.reduceLT, Int32.reduceToNatClampNeg, va_rf_some, Bool.false_eq_true, k_L_reads_0 ca, k_L_reads_1 ca, k_L_reads_2 ca, k_L_reads_5 ca, k_L_reads_6 ca, k_L_reads_7 ca, k_L_reads_8 ca, k_L_reads_11 ca, k_L_reads_12 ca, k_L_reads_13 ca, k_L_reads_14 ca, k_L_reads_17 ca, k_L_reads_19 ca, k_L_reads_20 ca, k_L_reads_21 ca, k_L_reads_24 ca, k_L_reads_26 ca, k_L_reads_27 ca, k_L_reads_29 ca, k_L_reads_32 ca, k_L_reads_33 ca, k_L_reads_35 ca, k_L_reads_38 ca, k_L_reads_40 ca, k_L_reads_43 ca, k_L_reads_45 ca, k_L_reads_48 ca, k_L_reads_51 ca, k_L_reads_52 ca, k_L_reads_54 ca, k_L_reads_55 ca, k_L_reads_57 ca, k_L_reads_58 ca, k_L_reads_59 ca, k_L_reads_62 ca, k_L_reads_63 ca, k_L_reads_64 ca, k_L_reads_65 ca, k_L_reads_68 ca, k_L_reads_70 ca, k_L_reads_73 ca, k_L_reads_74 ca, k_L_reads_77 ca, k_L_reads_78 ca, k_L_reads_80 ca, k_L_reads_81 ca, k_L_reads_84 ca, k_L_reads_85 ca, k_L_reads_87 ca, k_L_reads_90 ca, k_L_reads_91 ca, k_L_reads_94 ca, k_L_reads_95 ca, k_L_reads_96 ca, k_L_reads_99 ca, k_L_reads_101 ca, k_L_reads_103 ca, k_L_reads_106 ca, k_L_reads_107 ca, k_L_reads_110 ca, k_L_reads_111 ca, k_L_reads_113 ca, k_L_reads_115 ca, k_L_reads_118 ca, k_L_reads_120 ca, k_L_reads_123 ca, k_L_reads_124 ca, k_L_reads_125 ca, k_L_reads_128 ca, k_L_reads_130 ca, k_L_reads_133 ca, k_L_reads_134 ca, k_L_reads_137 ca, k_L_reads_138 ca, c71, one0]
      try clear hF hF0 F
      refine H1.cnt _ ?_
      rw [ct4]
      show K 0 0 128 _ [.int (nI n)] h1
      refine goN go (stp []) 160 _ _ _ _ _ _ (fun F hF hF0 => ?_)
      simp only [hF, hF0, ite_not, i_push, i_iload, i_lload, i_aload, i_istore, i_astore, i_lstore, i_iinc, i_bin, i_dv, i_un, i_lbin, i_lsh, i_i2l, i_l2i, i_lcmp, i_dup, i_dup2, i_pop, i_if, i_icmp, i_goto, swG, i_sw, i_getf, i_puti, i_putz, i_putr, i_ald, i_lald, i_aald, i_ast, i_last, i_aast, i_alen, i_new, i_newi, i_newl, i_newq, i_oinit, i_ret, i_zret, i_lret, i_vret, catS, tk, rpush, isO, i_m1, i_m2, i_acopy, i_callV, i_callS, KRet, lget, lput, lputL, lcl0, isL, lv0, List.map_cons, List.map_nil, List.length_cons, List.length_nil, List.cons_append, List.nil_append, Nat.reduceAdd, Nat.reduceSub, Nat.reduceLeDiff, List.replicate_succ, List.replicate_zero, List.getElem?_cons_succ, List.getElem?_cons_zero, List.set_cons_succ, List.set_cons_zero, true_and, and_true, if_true, if_false, ↓reduceIte, Nat.le_refl, Value.category, va_up_app, eq_self, stp, Nat.reduceBEq, Bool.or_false, Bool.false_or, Bool.true_or, Bool.or_true, or_true, true_or, bx_uu, implies_true, true_implies, not_true, not_false_eq_true, false_implies, and_self, Nat.reduceLT, Int32.reduceAdd, Int32.reduceSub, Int32.reduceMul, Int32.reduceLE, Int32.reduceLT, Int32.reduceToNatClampNeg, va_rf_some, Bool.false_eq_true, k_L_reads_0 ca, k_L_reads_1 ca, k_L_reads_2 ca, k_L_reads_5 ca, k_L_reads_6 ca, k_L_reads_7 ca, k_L_reads_8 ca, k_L_reads_11 ca, k_L_reads_12 ca, k_L_reads_13 ca, k_L_reads_14 ca, k_L_reads_17 ca, k_L_reads_19 ca, k_L_reads_20 ca, k_L_reads_21 ca, k_L_reads_24 ca, k_L_reads_26 ca, k_L_reads_27 ca, k_L_reads_29 ca, k_L_reads_32 ca, k_L_reads_33 ca, k_L_reads_35 ca, k_L_reads_38 ca, k_L_reads_40 ca, k_L_reads_43 ca, k_L_reads_45 ca, k_L_reads_48 ca, k_L_reads_51 ca, k_L_reads_52 ca, k_L_reads_54 ca, k_L_reads_55 ca, k_L_reads_57 ca, k_L_reads_58 ca, k_L_reads_59 ca, k_L_reads_62 ca, k_L_reads_63 ca, k_L_reads_64 ca, k_L_reads_65 ca, k_L_reads_68 ca, k_L_reads_70 ca, k_L_reads_73 ca, k_L_reads_74 ca, k_L_reads_77 ca, k_L_reads_78 ca, k_L_reads_80 ca, k_L_reads_81 ca, k_L_reads_84 ca, k_L_reads_85 ca, k_L_reads_87 ca, k_L_reads_90 ca, k_L_reads_91 ca, k_L_reads_94 ca, k_L_reads_95 ca, k_L_reads_96 ca, k_L_reads_99 ca, k_L_reads_101 ca, k_L_reads_103 ca, k_L_reads_106 ca, k_L_reads_107 ca, k_L_reads_110 ca, k_L_reads_111 ca, k_L_reads_113 ca, k_L_reads_115 ca, k_L_reads_118 ca, k_L_reads_120 ca, k_L_reads_123 ca, k_L_reads_124 ca, k_L_reads_125 ca, k_L_reads_128 ca, k_L_reads_130 ca, k_L_reads_133 ca, k_L_reads_134 ca, k_L_reads_137 ca, k_L_reads_138 ca, one0]
      try clear hF hF0 F
      exact k0
  · have f0 := flt_0 (by omega) e
    have ne : ¬ placeF f n = -1 := by rw [e]; exact m1_nI (by omega)
    have er : aReadC f n (nI k) = -10000002 := by
      unfold aReadC
      rw [if_pos (in02 hk), if_neg ne]
    have p4 := nI_m4 (p := p) (by omega)
    have p0 := nI_pos (n := p) (by omega)
    have pn : ¬ nI n < nI p := by
      rw [Int32.lt_iff_toInt_lt, nI_toInt (by omega), nI_toInt (by omega)]
      omega
    rcases flt_1 (f := f) (n := n) (by omega) e with f1 | f1
    · refine goN go (stp [24]) 160 _ _ _ _ _ _ (fun F hF hF0 => ?_)
      simp only [hF, hF0, ite_not, i_push, i_iload, i_lload, i_aload, i_istore, i_astore, i_lstore, i_iinc, i_bin, i_dv, i_un, i_lbin, i_lsh, i_i2l, i_l2i, i_lcmp, i_dup, i_dup2, i_pop, i_if, i_icmp, i_goto, swG, i_sw, i_getf, i_puti, i_putz, i_putr, i_ald, i_lald, i_aald, i_ast, i_last, i_aast, i_alen, i_new, i_newi, i_newl, i_newq, i_oinit, i_ret, i_zret, i_lret, i_vret, catS, tk, rpush, isO, i_m1, i_m2, i_acopy, i_callV, i_callS, KRet, lget, lput, lputL, lcl0, isL, lv0, List.map_cons, List.map_nil, List.length_cons, List.length_nil, List.cons_append, List.nil_append, Nat.reduceAdd, Nat.reduceSub, Nat.reduceLeDiff, List.replicate_succ, List.replicate_zero, List.getElem?_cons_succ, List.getElem?_cons_zero, List.set_cons_succ, List.set_cons_zero, true_and, and_true, if_true, if_false, ↓reduceIte, Nat.le_refl, Value.category, va_up_app, eq_self, stp, Nat.reduceBEq, Bool.or_false, Bool.false_or, Bool.true_or, Bool.or_true, or_true, true_or, bx_uu, implies_true, true_implies, not_true, not_false_eq_true, false_implies, and_self, Nat.reduceLT, Int32.reduceAdd, Int32.reduceSub, Int32.reduceMul, Int32.reduceLE, Int32.reduceLT, Int32.reduceToNatClampNeg, va_rf_some, Bool.false_eq_true, k_L_reads_0 ca, k_L_reads_1 ca, k_L_reads_2 ca, k_L_reads_5 ca, k_L_reads_6 ca, k_L_reads_7 ca, k_L_reads_8 ca, k_L_reads_11 ca, k_L_reads_12 ca, k_L_reads_13 ca, k_L_reads_14 ca, k_L_reads_17 ca, k_L_reads_19 ca, k_L_reads_20 ca, k_L_reads_21 ca, k_L_reads_24 ca, k_L_reads_26 ca, k_L_reads_27 ca, k_L_reads_29 ca, k_L_reads_32 ca, k_L_reads_33 ca, k_L_reads_35 ca, k_L_reads_38 ca, k_L_reads_40 ca, k_L_reads_43 ca, k_L_reads_45 ca, k_L_reads_48 ca, k_L_reads_51 ca, k_L_reads_52 ca, k_L_reads_54 ca, k_L_reads_55 ca, k_L_reads_57 ca, k_L_reads_58 ca, k_L_reads_59 ca, k_L_reads_62 ca, k_L_reads_63 ca, k_L_reads_64 ca, k_L_reads_65 ca, k_L_reads_68 ca, k_L_reads_70 ca, k_L_reads_73 ca, k_L_reads_74 ca, k_L_reads_77 ca, k_L_reads_78 ca, k_L_reads_80 ca, k_L_reads_81 ca, k_L_reads_84 ca, k_L_reads_85 ca, k_L_reads_87 ca, k_L_reads_90 ca, k_L_reads_91 ca, k_L_reads_94 ca, k_L_reads_95 ca, k_L_reads_96 ca, k_L_reads_99 ca, k_L_reads_101 ca, k_L_reads_103 ca, k_L_reads_106 ca, k_L_reads_107 ca, k_L_reads_110 ca, k_L_reads_111 ca, k_L_reads_113 ca, k_L_reads_115 ca, k_L_reads_118 ca, k_L_reads_120 ca, k_L_reads_123 ca, k_L_reads_124 ca, k_L_reads_125 ca, k_L_reads_128 ca, k_L_reads_130 ca, k_L_reads_133 ca, k_L_reads_134 ca, k_L_reads_137 ca, k_L_reads_138 ca, c7, H, sq_fault, sq_count, f0, f1, ct4]
      try clear hF hF0 F
      refine H.read _ (fun h1 s' ss' T' H1 hx => ?_)
      rw [er]
      show K 0 0 24 _ [.int (-10000002)] h1
      obtain ⟨fs1, c71⟩ := H1.cell
      have k0 := hs h1 s' ss' T' H1 hx.nw
      refine goN go (stp [128]) 160 _ _ _ _ _ _ (fun F hF hF0 => ?_)
      simp only [hF, hF0, ite_not, i_push, i_iload, i_lload, i_aload, i_istore, i_astore, i_lstore, i_iinc, i_bin, i_dv, i_un, i_lbin, i_lsh, i_i2l, i_l2i, i_lcmp, i_dup, i_dup2, i_pop, i_if, i_icmp, i_goto, swG, i_sw, i_getf, i_puti, i_putz, i_putr, i_ald, i_lald, i_aald, i_ast, i_last, i_aast, i_alen, i_new, i_newi, i_newl, i_newq, i_oinit, i_ret, i_zret, i_lret, i_vret, catS, tk, rpush, isO, i_m1, i_m2, i_acopy, i_callV, i_callS, KRet, lget, lput, lputL, lcl0, isL, lv0, List.map_cons, List.map_nil, List.length_cons, List.length_nil, List.cons_append, List.nil_append, Nat.reduceAdd, Nat.reduceSub, Nat.reduceLeDiff, List.replicate_succ, List.replicate_zero, List.getElem?_cons_succ, List.getElem?_cons_zero, List.set_cons_succ, List.set_cons_zero, true_and, and_true, if_true, if_false, ↓reduceIte, Nat.le_refl, Value.category, va_up_app, eq_self, stp, Nat.reduceBEq, Bool.or_false, Bool.false_or, Bool.true_or, Bool.or_true, or_true, true_or, bx_uu, implies_true, true_implies, not_true, not_false_eq_true, false_implies, and_self, Nat.reduceLT, Int32.reduceAdd, Int32.reduceSub, Int32.reduceMul, Int32.reduceLE, Int32.reduceLT, Int32.reduceToNatClampNeg, va_rf_some, Bool.false_eq_true, k_L_reads_0 ca, k_L_reads_1 ca, k_L_reads_2 ca, k_L_reads_5 ca, k_L_reads_6 ca, k_L_reads_7 ca, k_L_reads_8 ca, k_L_reads_11 ca, k_L_reads_12 ca, k_L_reads_13 ca, k_L_reads_14 ca, k_L_reads_17 ca, k_L_reads_19 ca, k_L_reads_20 ca, k_L_reads_21 ca, k_L_reads_24 ca, k_L_reads_26 ca, k_L_reads_27 ca, k_L_reads_29 ca, k_L_reads_32 ca, k_L_reads_33 ca, k_L_reads_35 ca, k_L_reads_38 ca, k_L_reads_40 ca, k_L_reads_43 ca, k_L_reads_45 ca, k_L_reads_48 ca, k_L_reads_51 ca, k_L_reads_52 ca, k_L_reads_54 ca, k_L_reads_55 ca, k_L_reads_57 ca, k_L_reads_58 ca, k_L_reads_59 ca, k_L_reads_62 ca, k_L_reads_63 ca, k_L_reads_64 ca, k_L_reads_65 ca, k_L_reads_68 ca, k_L_reads_70 ca, k_L_reads_73 ca, k_L_reads_74 ca, k_L_reads_77 ca, k_L_reads_78 ca, k_L_reads_80 ca, k_L_reads_81 ca, k_L_reads_84 ca, k_L_reads_85 ca, k_L_reads_87 ca, k_L_reads_90 ca, k_L_reads_91 ca, k_L_reads_94 ca, k_L_reads_95 ca, k_L_reads_96 ca, k_L_reads_99 ca, k_L_reads_101 ca, k_L_reads_103 ca, k_L_reads_106 ca, k_L_reads_107 ca, k_L_reads_110 ca, k_L_reads_111 ca, k_L_reads_113 ca, k_L_reads_115 ca, k_L_reads_118 ca, k_L_reads_120 ca, k_L_reads_123 ca, k_L_reads_124 ca, k_L_reads_125 ca, k_L_reads_128 ca, k_L_reads_130 ca, k_L_reads_133 ca, k_L_reads_134 ca, k_L_reads_137 ca, k_L_reads_138 ca, c71, p4, p0, pn, one0]
      try clear hF hF0 F
      refine H1.cnt _ ?_
      rw [ct4]
      show K 0 0 128 _ [.int (nI n)] h1
      refine goN go (stp []) 160 _ _ _ _ _ _ (fun F hF hF0 => ?_)
      simp only [hF, hF0, ite_not, i_push, i_iload, i_lload, i_aload, i_istore, i_astore, i_lstore, i_iinc, i_bin, i_dv, i_un, i_lbin, i_lsh, i_i2l, i_l2i, i_lcmp, i_dup, i_dup2, i_pop, i_if, i_icmp, i_goto, swG, i_sw, i_getf, i_puti, i_putz, i_putr, i_ald, i_lald, i_aald, i_ast, i_last, i_aast, i_alen, i_new, i_newi, i_newl, i_newq, i_oinit, i_ret, i_zret, i_lret, i_vret, catS, tk, rpush, isO, i_m1, i_m2, i_acopy, i_callV, i_callS, KRet, lget, lput, lputL, lcl0, isL, lv0, List.map_cons, List.map_nil, List.length_cons, List.length_nil, List.cons_append, List.nil_append, Nat.reduceAdd, Nat.reduceSub, Nat.reduceLeDiff, List.replicate_succ, List.replicate_zero, List.getElem?_cons_succ, List.getElem?_cons_zero, List.set_cons_succ, List.set_cons_zero, true_and, and_true, if_true, if_false, ↓reduceIte, Nat.le_refl, Value.category, va_up_app, eq_self, stp, Nat.reduceBEq, Bool.or_false, Bool.false_or, Bool.true_or, Bool.or_true, or_true, true_or, bx_uu, implies_true, true_implies, not_true, not_false_eq_true, false_implies, and_self, Nat.reduceLT, Int32.reduceAdd, Int32.reduceSub, Int32.reduceMul, Int32.reduceLE, Int32.reduceLT, Int32.reduceToNatClampNeg, va_rf_some, Bool.false_eq_true, k_L_reads_0 ca, k_L_reads_1 ca, k_L_reads_2 ca, k_L_reads_5 ca, k_L_reads_6 ca, k_L_reads_7 ca, k_L_reads_8 ca, k_L_reads_11 ca, k_L_reads_12 ca, k_L_reads_13 ca, k_L_reads_14 ca, k_L_reads_17 ca, k_L_reads_19 ca, k_L_reads_20 ca, k_L_reads_21 ca, k_L_reads_24 ca, k_L_reads_26 ca, k_L_reads_27 ca, k_L_reads_29 ca, k_L_reads_32 ca, k_L_reads_33 ca, k_L_reads_35 ca, k_L_reads_38 ca, k_L_reads_40 ca, k_L_reads_43 ca, k_L_reads_45 ca, k_L_reads_48 ca, k_L_reads_51 ca, k_L_reads_52 ca, k_L_reads_54 ca, k_L_reads_55 ca, k_L_reads_57 ca, k_L_reads_58 ca, k_L_reads_59 ca, k_L_reads_62 ca, k_L_reads_63 ca, k_L_reads_64 ca, k_L_reads_65 ca, k_L_reads_68 ca, k_L_reads_70 ca, k_L_reads_73 ca, k_L_reads_74 ca, k_L_reads_77 ca, k_L_reads_78 ca, k_L_reads_80 ca, k_L_reads_81 ca, k_L_reads_84 ca, k_L_reads_85 ca, k_L_reads_87 ca, k_L_reads_90 ca, k_L_reads_91 ca, k_L_reads_94 ca, k_L_reads_95 ca, k_L_reads_96 ca, k_L_reads_99 ca, k_L_reads_101 ca, k_L_reads_103 ca, k_L_reads_106 ca, k_L_reads_107 ca, k_L_reads_110 ca, k_L_reads_111 ca, k_L_reads_113 ca, k_L_reads_115 ca, k_L_reads_118 ca, k_L_reads_120 ca, k_L_reads_123 ca, k_L_reads_124 ca, k_L_reads_125 ca, k_L_reads_128 ca, k_L_reads_130 ca, k_L_reads_133 ca, k_L_reads_134 ca, k_L_reads_137 ca, k_L_reads_138 ca, one0]
      try clear hF hF0 F
      exact k0
    · refine goN go (stp [24]) 160 _ _ _ _ _ _ (fun F hF hF0 => ?_)
      simp only [hF, hF0, ite_not, i_push, i_iload, i_lload, i_aload, i_istore, i_astore, i_lstore, i_iinc, i_bin, i_dv, i_un, i_lbin, i_lsh, i_i2l, i_l2i, i_lcmp, i_dup, i_dup2, i_pop, i_if, i_icmp, i_goto, swG, i_sw, i_getf, i_puti, i_putz, i_putr, i_ald, i_lald, i_aald, i_ast, i_last, i_aast, i_alen, i_new, i_newi, i_newl, i_newq, i_oinit, i_ret, i_zret, i_lret, i_vret, catS, tk, rpush, isO, i_m1, i_m2, i_acopy, i_callV, i_callS, KRet, lget, lput, lputL, lcl0, isL, lv0, List.map_cons, List.map_nil, List.length_cons, List.length_nil, List.cons_append, List.nil_append, Nat.reduceAdd, Nat.reduceSub, Nat.reduceLeDiff, List.replicate_succ, List.replicate_zero, List.getElem?_cons_succ, List.getElem?_cons_zero, List.set_cons_succ, List.set_cons_zero, true_and, and_true, if_true, if_false, ↓reduceIte, Nat.le_refl, Value.category, va_up_app, eq_self, stp, Nat.reduceBEq, Bool.or_false, Bool.false_or, Bool.true_or, Bool.or_true, or_true, true_or, bx_uu, implies_true, true_implies, not_true, not_false_eq_true, false_implies, and_self, Nat.reduceLT, Int32.reduceAdd, Int32.reduceSub, Int32.reduceMul, Int32.reduceLE, Int32.reduceLT, Int32.reduceToNatClampNeg, va_rf_some, Bool.false_eq_true, k_L_reads_0 ca, k_L_reads_1 ca, k_L_reads_2 ca, k_L_reads_5 ca, k_L_reads_6 ca, k_L_reads_7 ca, k_L_reads_8 ca, k_L_reads_11 ca, k_L_reads_12 ca, k_L_reads_13 ca, k_L_reads_14 ca, k_L_reads_17 ca, k_L_reads_19 ca, k_L_reads_20 ca, k_L_reads_21 ca, k_L_reads_24 ca, k_L_reads_26 ca, k_L_reads_27 ca, k_L_reads_29 ca, k_L_reads_32 ca, k_L_reads_33 ca, k_L_reads_35 ca, k_L_reads_38 ca, k_L_reads_40 ca, k_L_reads_43 ca, k_L_reads_45 ca, k_L_reads_48 ca, k_L_reads_51 ca, k_L_reads_52 ca, k_L_reads_54 ca, k_L_reads_55 ca, k_L_reads_57 ca, k_L_reads_58 ca, k_L_reads_59 ca, k_L_reads_62 ca, k_L_reads_63 ca, k_L_reads_64 ca, k_L_reads_65 ca, k_L_reads_68 ca, k_L_reads_70 ca, k_L_reads_73 ca, k_L_reads_74 ca, k_L_reads_77 ca, k_L_reads_78 ca, k_L_reads_80 ca, k_L_reads_81 ca, k_L_reads_84 ca, k_L_reads_85 ca, k_L_reads_87 ca, k_L_reads_90 ca, k_L_reads_91 ca, k_L_reads_94 ca, k_L_reads_95 ca, k_L_reads_96 ca, k_L_reads_99 ca, k_L_reads_101 ca, k_L_reads_103 ca, k_L_reads_106 ca, k_L_reads_107 ca, k_L_reads_110 ca, k_L_reads_111 ca, k_L_reads_113 ca, k_L_reads_115 ca, k_L_reads_118 ca, k_L_reads_120 ca, k_L_reads_123 ca, k_L_reads_124 ca, k_L_reads_125 ca, k_L_reads_128 ca, k_L_reads_130 ca, k_L_reads_133 ca, k_L_reads_134 ca, k_L_reads_137 ca, k_L_reads_138 ca, c7, H, sq_fault, sq_count, f0, f1, ct4]
      try clear hF hF0 F
      refine H.read _ (fun h1 s' ss' T' H1 hx => ?_)
      rw [er]
      show K 0 0 24 _ [.int (-10000002)] h1
      obtain ⟨fs1, c71⟩ := H1.cell
      have k0 := hs h1 s' ss' T' H1 hx.nw
      refine goN go (stp [128]) 160 _ _ _ _ _ _ (fun F hF hF0 => ?_)
      simp only [hF, hF0, ite_not, i_push, i_iload, i_lload, i_aload, i_istore, i_astore, i_lstore, i_iinc, i_bin, i_dv, i_un, i_lbin, i_lsh, i_i2l, i_l2i, i_lcmp, i_dup, i_dup2, i_pop, i_if, i_icmp, i_goto, swG, i_sw, i_getf, i_puti, i_putz, i_putr, i_ald, i_lald, i_aald, i_ast, i_last, i_aast, i_alen, i_new, i_newi, i_newl, i_newq, i_oinit, i_ret, i_zret, i_lret, i_vret, catS, tk, rpush, isO, i_m1, i_m2, i_acopy, i_callV, i_callS, KRet, lget, lput, lputL, lcl0, isL, lv0, List.map_cons, List.map_nil, List.length_cons, List.length_nil, List.cons_append, List.nil_append, Nat.reduceAdd, Nat.reduceSub, Nat.reduceLeDiff, List.replicate_succ, List.replicate_zero, List.getElem?_cons_succ, List.getElem?_cons_zero, List.set_cons_succ, List.set_cons_zero, true_and, and_true, if_true, if_false, ↓reduceIte, Nat.le_refl, Value.category, va_up_app, eq_self, stp, Nat.reduceBEq, Bool.or_false, Bool.false_or, Bool.true_or, Bool.or_true, or_true, true_or, bx_uu, implies_true, true_implies, not_true, not_false_eq_true, false_implies, and_self, Nat.reduceLT, Int32.reduceAdd, Int32.reduceSub, Int32.reduceMul, Int32.reduceLE, Int32.reduceLT, Int32.reduceToNatClampNeg, va_rf_some, Bool.false_eq_true, k_L_reads_0 ca, k_L_reads_1 ca, k_L_reads_2 ca, k_L_reads_5 ca, k_L_reads_6 ca, k_L_reads_7 ca, k_L_reads_8 ca, k_L_reads_11 ca, k_L_reads_12 ca, k_L_reads_13 ca, k_L_reads_14 ca, k_L_reads_17 ca, k_L_reads_19 ca, k_L_reads_20 ca, k_L_reads_21 ca, k_L_reads_24 ca, k_L_reads_26 ca, k_L_reads_27 ca, k_L_reads_29 ca, k_L_reads_32 ca, k_L_reads_33 ca, k_L_reads_35 ca, k_L_reads_38 ca, k_L_reads_40 ca, k_L_reads_43 ca, k_L_reads_45 ca, k_L_reads_48 ca, k_L_reads_51 ca, k_L_reads_52 ca, k_L_reads_54 ca, k_L_reads_55 ca, k_L_reads_57 ca, k_L_reads_58 ca, k_L_reads_59 ca, k_L_reads_62 ca, k_L_reads_63 ca, k_L_reads_64 ca, k_L_reads_65 ca, k_L_reads_68 ca, k_L_reads_70 ca, k_L_reads_73 ca, k_L_reads_74 ca, k_L_reads_77 ca, k_L_reads_78 ca, k_L_reads_80 ca, k_L_reads_81 ca, k_L_reads_84 ca, k_L_reads_85 ca, k_L_reads_87 ca, k_L_reads_90 ca, k_L_reads_91 ca, k_L_reads_94 ca, k_L_reads_95 ca, k_L_reads_96 ca, k_L_reads_99 ca, k_L_reads_101 ca, k_L_reads_103 ca, k_L_reads_106 ca, k_L_reads_107 ca, k_L_reads_110 ca, k_L_reads_111 ca, k_L_reads_113 ca, k_L_reads_115 ca, k_L_reads_118 ca, k_L_reads_120 ca, k_L_reads_123 ca, k_L_reads_124 ca, k_L_reads_125 ca, k_L_reads_128 ca, k_L_reads_130 ca, k_L_reads_133 ca, k_L_reads_134 ca, k_L_reads_137 ca, k_L_reads_138 ca, c71, p4, p0, pn, one0]
      try clear hF hF0 F
      refine H1.cnt _ ?_
      rw [ct4]
      show K 0 0 128 _ [.int (nI n)] h1
      refine goN go (stp []) 160 _ _ _ _ _ _ (fun F hF hF0 => ?_)
      simp only [hF, hF0, ite_not, i_push, i_iload, i_lload, i_aload, i_istore, i_astore, i_lstore, i_iinc, i_bin, i_dv, i_un, i_lbin, i_lsh, i_i2l, i_l2i, i_lcmp, i_dup, i_dup2, i_pop, i_if, i_icmp, i_goto, swG, i_sw, i_getf, i_puti, i_putz, i_putr, i_ald, i_lald, i_aald, i_ast, i_last, i_aast, i_alen, i_new, i_newi, i_newl, i_newq, i_oinit, i_ret, i_zret, i_lret, i_vret, catS, tk, rpush, isO, i_m1, i_m2, i_acopy, i_callV, i_callS, KRet, lget, lput, lputL, lcl0, isL, lv0, List.map_cons, List.map_nil, List.length_cons, List.length_nil, List.cons_append, List.nil_append, Nat.reduceAdd, Nat.reduceSub, Nat.reduceLeDiff, List.replicate_succ, List.replicate_zero, List.getElem?_cons_succ, List.getElem?_cons_zero, List.set_cons_succ, List.set_cons_zero, true_and, and_true, if_true, if_false, ↓reduceIte, Nat.le_refl, Value.category, va_up_app, eq_self, stp, Nat.reduceBEq, Bool.or_false, Bool.false_or, Bool.true_or, Bool.or_true, or_true, true_or, bx_uu, implies_true, true_implies, not_true, not_false_eq_true, false_implies, and_self, Nat.reduceLT, Int32.reduceAdd, Int32.reduceSub, Int32.reduceMul, Int32.reduceLE, Int32.reduceLT, Int32.reduceToNatClampNeg, va_rf_some, Bool.false_eq_true, k_L_reads_0 ca, k_L_reads_1 ca, k_L_reads_2 ca, k_L_reads_5 ca, k_L_reads_6 ca, k_L_reads_7 ca, k_L_reads_8 ca, k_L_reads_11 ca, k_L_reads_12 ca, k_L_reads_13 ca, k_L_reads_14 ca, k_L_reads_17 ca, k_L_reads_19 ca, k_L_reads_20 ca, k_L_reads_21 ca, k_L_reads_24 ca, k_L_reads_26 ca, k_L_reads_27 ca, k_L_reads_29 ca, k_L_reads_32 ca, k_L_reads_33 ca, k_L_reads_35 ca, k_L_reads_38 ca, k_L_reads_40 ca, k_L_reads_43 ca, k_L_reads_45 ca, k_L_reads_48 ca, k_L_reads_51 ca, k_L_reads_52 ca, k_L_reads_54 ca, k_L_reads_55 ca, k_L_reads_57 ca, k_L_reads_58 ca, k_L_reads_59 ca, k_L_reads_62 ca, k_L_reads_63 ca, k_L_reads_64 ca, k_L_reads_65 ca, k_L_reads_68 ca, k_L_reads_70 ca, k_L_reads_73 ca, k_L_reads_74 ca, k_L_reads_77 ca, k_L_reads_78 ca, k_L_reads_80 ca, k_L_reads_81 ca, k_L_reads_84 ca, k_L_reads_85 ca, k_L_reads_87 ca, k_L_reads_90 ca, k_L_reads_91 ca, k_L_reads_94 ca, k_L_reads_95 ca, k_L_reads_96 ca, k_L_reads_99 ca, k_L_reads_101 ca, k_L_reads_103 ca, k_L_reads_106 ca, k_L_reads_107 ca, k_L_reads_110 ca, k_L_reads_111 ca, k_L_reads_113 ca, k_L_reads_115 ca, k_L_reads_118 ca, k_L_reads_120 ca, k_L_reads_123 ca, k_L_reads_124 ca, k_L_reads_125 ca, k_L_reads_128 ca, k_L_reads_130 ca, k_L_reads_133 ca, k_L_reads_134 ca, k_L_reads_137 ca, k_L_reads_138 ca, one0]
      try clear hF hF0 F
      exact k0
