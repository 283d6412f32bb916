/-! SnapStacksModel.ticks: its table -/
def k_X8_ticks (ca : Nat → ClassId) : Nat → IT := fun pc => if pc < 75 then lk pc [(0, i_aload 0 1),
  (1, i_push (.int 0) 2),
  (2, i_callV 8 1 0 0 0 0 (sp_X8_warmer ca) 5),
  (5, i_istore 2 6),
  (6, i_aload 0 7),
  (7, i_push (.int 1) 8),
  (8, i_callV 8 1 0 0 0 0 (sp_X8_warmer ca) 11),
  (11, i_istore 3 12),
  (12, i_aload 0 13),
  (13, i_push (.int 2) 14),
  (14, i_callV 8 1 0 0 0 0 (sp_X8_warmer ca) 17),
  (17, i_istore 4 19),
  (19, i_aload 0 20),
  (20, i_getf 8 0 23),
  (23, i_push (.int 9) 25),
  (25, i_ald (ca 0) 26),
  (26, i_if (fun x => ¬ x = 0) 33 29),
  (29, i_push (.int 1) 30),
  (30, i_goto 34),
  (33, i_push (.int 0) 34),
  (34, i_istore 5 36),
  (36, i_push (.int 0) 37),
  (37, i_istore 6 39),
  (39, i_iload 6 41),
  (41, i_push (.int 3) 42),
  (42, i_icmp (fun x y => y ≤ x) 205 45),
  (45, i_iload 6 47),
  (47, i_callS 1 0 0 0 0 (sp_X8_roomAt ca) 50),
  (50, i_istore 7 52),
  (52, i_iload 6 54),
  (54, i_if (fun x => ¬ x = 0) 61 57),
  (57, i_iload 2 58),
  (58, i_goto 73),
  (61, i_iload 6 63),
  (63, i_push (.int 1) 64),
  (64, i_icmp (fun x y => ¬ x = y) 71 67),
  (67, i_iload 3 68),
  (68, i_goto 73),
  (71, i_iload 4 73),
  (73, i_istore 8 75)] else
  if pc < 144 then lk pc [(75, i_aload 0 76),
  (76, i_getf 8 0 79),
  (79, i_iload 7 81),
  (81, i_push (.int 4) 82),
  (82, i_bin (fun x y => x + y) 83),
  (83, i_dup2 84),
  (84, i_ald (ca 0) 85),
  (85, i_aload 0 86),
  (86, i_iload 6 88),
  (88, i_callV 8 1 0 0 0 0 (sp_X8_isClosed ca) 91),
  (91, i_if (fun x => x = 0) 98 94),
  (94, i_push (.int 1) 95),
  (95, i_goto 99),
  (98, i_push (.int 0) 99),
  (99, i_bin (fun x y => x + y) 100),
  (100, i_ast (fun x => x) (ca 0) 101),
  (101, i_aload 0 102),
  (102, i_getf 8 0 105),
  (105, i_iload 7 107),
  (107, i_push (.int 0) 108),
  (108, i_bin (fun x y => x + y) 109),
  (109, i_iload 8 111),
  (111, i_ast (fun x => x) (ca 0) 112),
  (112, i_aload 0 113),
  (113, i_getf 8 0 116),
  (116, i_iload 7 118),
  (118, i_push (.int 5) 119),
  (119, i_bin (fun x y => x + y) 120),
  (120, i_iload 5 122),
  (122, i_if (fun x => ¬ x = 0) 139 125),
  (125, i_iload 8 127),
  (127, i_aload 0 128),
  (128, i_getf 8 0 131),
  (131, i_iload 7 133),
  (133, i_push (.int 5) 134),
  (134, i_bin (fun x y => x + y) 135),
  (135, i_ald (ca 0) 136),
  (136, i_icmp (fun x y => x ≤ y) 144 139),
  (139, i_iload 8 141),
  (141, i_goto 153)] else
  if pc < 215 then lk pc [(144, i_aload 0 145),
  (145, i_getf 8 0 148),
  (148, i_iload 7 150),
  (150, i_push (.int 5) 151),
  (151, i_bin (fun x y => x + y) 152),
  (152, i_ald (ca 0) 153),
  (153, i_ast (fun x => x) (ca 0) 154),
  (154, i_aload 0 155),
  (155, i_getf 8 0 158),
  (158, i_iload 7 160),
  (160, i_push (.int 6) 162),
  (162, i_bin (fun x y => x + y) 163),
  (163, i_iload 5 165),
  (165, i_if (fun x => ¬ x = 0) 183 168),
  (168, i_iload 8 170),
  (170, i_aload 0 171),
  (171, i_getf 8 0 174),
  (174, i_iload 7 176),
  (176, i_push (.int 6) 178),
  (178, i_bin (fun x y => x + y) 179),
  (179, i_ald (ca 0) 180),
  (180, i_icmp (fun x y => y ≤ x) 188 183),
  (183, i_iload 8 185),
  (185, i_goto 198),
  (188, i_aload 0 189),
  (189, i_getf 8 0 192),
  (192, i_iload 7 194),
  (194, i_push (.int 6) 196),
  (196, i_bin (fun x y => x + y) 197),
  (197, i_ald (ca 0) 198),
  (198, i_ast (fun x => x) (ca 0) 199),
  (199, i_iinc 6 1 202),
  (202, i_goto 39),
  (205, i_aload 0 206),
  (206, i_getf 8 0 209),
  (209, i_push (.int 9) 211),
  (211, i_dup2 212),
  (212, i_ald (ca 0) 213),
  (213, i_push (.int 1) 214),
  (214, i_bin (fun x y => x + y) 215)] else
  lk pc [(215, i_ast (fun x => x) (ca 0) 216),
  (216, i_push (.int 0) 217),
  (217, i_istore 6 219),
  (219, i_push (.int 0) 220),
  (220, i_istore 7 222),
  (222, i_iload 7 224),
  (224, i_push (.int 3) 225),
  (225, i_icmp (fun x y => y ≤ x) 253 228),
  (228, i_iload 6 230),
  (230, i_aload 0 231),
  (231, i_iload 7 233),
  (233, i_aload 0 234),
  (234, i_getf 8 6 237),
  (237, i_iload 7 239),
  (239, i_ald (ca 0) 240),
  (240, i_iload 1 241),
  (241, i_callV 8 3 0 0 0 0 (sp_X8_pulls ca) 244),
  (244, i_bin (fun x y => x + y) 245),
  (245, i_istore 6 247),
  (247, i_iinc 7 1 250),
  (250, i_goto 222),
  (253, i_iload 6 255),
  (255, i_ret)]
set_option maxRecDepth 20000 in
theorem t_X8_ticks : Tb k_X8_ticks yX8_ticks cX8_ticks 9 (some .int) 4 0 0 := by
  intro l D ca A p e s m args below meth c post X
  unfold k_X8_ticks
  refine snd_split (75) ?_ ?_
  · refine snd_cons (snd_aload_n X dX8_ticks_0 rfl) ?_
    refine snd_cons (snd_iconst X dX8_ticks_1 (by decide)) ?_
    refine snd_cons (snd_callV X Fk8 (ok_X8_warmer l D ca) rfl rfl w_825 w_827 wp_33 w_9 w_828 (by decide) (by decide) dX8_ticks_2) ?_
    refine snd_cons (snd_istore_n X dX8_ticks_5 rfl (by decide)) ?_
    refine snd_cons (snd_aload_n X dX8_ticks_6 rfl) ?_
    refine snd_cons (snd_iconst X dX8_ticks_7 (by decide)) ?_
    refine snd_cons (snd_callV X Fk8 (ok_X8_warmer l D ca) rfl rfl w_825 w_827 wp_33 w_9 w_828 (by decide) (by decide) dX8_ticks_8) ?_
    refine snd_cons (snd_istore_n X dX8_ticks_11 rfl (by decide)) ?_
    refine snd_cons (snd_aload_n X dX8_ticks_12 rfl) ?_
    refine snd_cons (snd_iconst X dX8_ticks_13 (by decide)) ?_
    refine snd_cons (snd_callV X Fk8 (ok_X8_warmer l D ca) rfl rfl w_825 w_827 wp_33 w_9 w_828 (by decide) (by decide) dX8_ticks_14) ?_
    refine snd_cons (snd_istore X dX8_ticks_17 (by decide)) ?_
    refine snd_cons (snd_aload_n X dX8_ticks_19 rfl) ?_
    refine snd_cons (snd_getf X Fk8 0 (by decide) w_647 dX8_ticks_20) ?_
    refine snd_cons (snd_bipush X dX8_ticks_23 (by decide)) ?_
    refine snd_cons (snd_iaload X dX8_ticks_25) ?_
    refine snd_cons (snd_if_ne X dX8_ticks_26 (by decide)) ?_
    refine snd_cons (snd_iconst X dX8_ticks_29 (by decide)) ?_
    refine snd_cons (snd_goto X dX8_ticks_30 (by decide)) ?_
    refine snd_cons (snd_iconst X dX8_ticks_33 (by decide)) ?_
    refine snd_cons (snd_istore X dX8_ticks_34 (by decide)) ?_
    refine snd_cons (snd_iconst X dX8_ticks_36 (by decide)) ?_
    refine snd_cons (snd_istore X dX8_ticks_37 (by decide)) ?_
    refine snd_cons (snd_iload X dX8_ticks_39) ?_
    refine snd_cons (snd_iconst X dX8_ticks_41 (by decide)) ?_
    refine snd_cons (snd_icmp_ge X dX8_ticks_42 (by decide)) ?_
    refine snd_cons (snd_iload X dX8_ticks_45) ?_
    refine snd_cons (snd_callS X (ok_X8_roomAt l D ca) rfl rfl w_644 w_645 w_9 w_646 (by decide) (by decide) dX8_ticks_47) ?_
    refine snd_cons (snd_istore X dX8_ticks_50 (by decide)) ?_
    refine snd_cons (snd_iload X dX8_ticks_52) ?_
    refine snd_cons (snd_if_ne X dX8_ticks_54 (by decide)) ?_
    refine snd_cons (snd_iload_n X dX8_ticks_57 rfl) ?_
    refine snd_cons (snd_goto X dX8_ticks_58 (by decide)) ?_
    refine snd_cons (snd_iload X dX8_ticks_61) ?_
    refine snd_cons (snd_iconst X dX8_ticks_63 (by decide)) ?_
    refine snd_cons (snd_icmp_ne X dX8_ticks_64 (by decide)) ?_
    refine snd_cons (snd_iload_n X dX8_ticks_67 rfl) ?_
    refine snd_cons (snd_goto X dX8_ticks_68 (by decide)) ?_
    refine snd_cons (snd_iload X dX8_ticks_71) ?_
    refine snd_cons (snd_istore X dX8_ticks_73 (by decide)) ?_
    exact snd_nil
  refine snd_split (144) ?_ ?_
  · refine snd_cons (snd_aload_n X dX8_ticks_75 rfl) ?_
    refine snd_cons (snd_getf X Fk8 0 (by decide) w_647 dX8_ticks_76) ?_
    refine snd_cons (snd_iload X dX8_ticks_79) ?_
    refine snd_cons (snd_iconst X dX8_ticks_81 (by decide)) ?_
    refine snd_cons (snd_iadd X dX8_ticks_82) ?_
    refine snd_cons (snd_dup2 X dX8_ticks_83) ?_
    refine snd_cons (snd_iaload X dX8_ticks_84) ?_
    refine snd_cons (snd_aload_n X dX8_ticks_85 rfl) ?_
    refine snd_cons (snd_iload X dX8_ticks_86) ?_
    refine snd_cons (snd_callV X Fk8 (ok_X8_isClosed l D ca) rfl rfl w_778 w_780 wp_28 w_9 w_781 (by decide) (by decide) dX8_ticks_88) ?_
    refine snd_cons (snd_if_eq X dX8_ticks_91 (by decide)) ?_
    refine snd_cons (snd_iconst X dX8_ticks_94 (by decide)) ?_
    refine snd_cons (snd_goto X dX8_ticks_95 (by decide)) ?_
    refine snd_cons (snd_iconst X dX8_ticks_98 (by decide)) ?_
    refine snd_cons (snd_iadd X dX8_ticks_99) ?_
    refine snd_cons (snd_iastore X dX8_ticks_100) ?_
    refine snd_cons (snd_aload_n X dX8_ticks_101 rfl) ?_
    refine snd_cons (snd_getf X Fk8 0 (by decide) w_647 dX8_ticks_102) ?_
    refine snd_cons (snd_iload X dX8_ticks_105) ?_
    refine snd_cons (snd_iconst X dX8_ticks_107 (by decide)) ?_
    refine snd_cons (snd_iadd X dX8_ticks_108) ?_
    refine snd_cons (snd_iload X dX8_ticks_109) ?_
    refine snd_cons (snd_iastore X dX8_ticks_111) ?_
    refine snd_cons (snd_aload_n X dX8_ticks_112 rfl) ?_
    refine snd_cons (snd_getf X Fk8 0 (by decide) w_647 dX8_ticks_113) ?_
    refine snd_cons (snd_iload X dX8_ticks_116) ?_
    refine snd_cons (snd_iconst X dX8_ticks_118 (by decide)) ?_
    refine snd_cons (snd_iadd X dX8_ticks_119) ?_
    refine snd_cons (snd_iload X dX8_ticks_120) ?_
    refine snd_cons (snd_if_ne X dX8_ticks_122 (by decide)) ?_
    refine snd_cons (snd_iload X dX8_ticks_125) ?_
    refine snd_cons (snd_aload_n X dX8_ticks_127 rfl) ?_
    refine snd_cons (snd_getf X Fk8 0 (by decide) w_647 dX8_ticks_128) ?_
    refine snd_cons (snd_iload X dX8_ticks_131) ?_
    refine snd_cons (snd_iconst X dX8_ticks_133 (by decide)) ?_
    refine snd_cons (snd_iadd X dX8_ticks_134) ?_
    refine snd_cons (snd_iaload X dX8_ticks_135) ?_
    refine snd_cons (snd_icmp_le X dX8_ticks_136 (by decide)) ?_
    refine snd_cons (snd_iload X dX8_ticks_139) ?_
    refine snd_cons (snd_goto X dX8_ticks_141 (by decide)) ?_
    exact snd_nil
  refine snd_split (215) ?_ ?_
  · refine snd_cons (snd_aload_n X dX8_ticks_144 rfl) ?_
    refine snd_cons (snd_getf X Fk8 0 (by decide) w_647 dX8_ticks_145) ?_
    refine snd_cons (snd_iload X dX8_ticks_148) ?_
    refine snd_cons (snd_iconst X dX8_ticks_150 (by decide)) ?_
    refine snd_cons (snd_iadd X dX8_ticks_151) ?_
    refine snd_cons (snd_iaload X dX8_ticks_152) ?_
    refine snd_cons (snd_iastore X dX8_ticks_153) ?_
    refine snd_cons (snd_aload_n X dX8_ticks_154 rfl) ?_
    refine snd_cons (snd_getf X Fk8 0 (by decide) w_647 dX8_ticks_155) ?_
    refine snd_cons (snd_iload X dX8_ticks_158) ?_
    refine snd_cons (snd_bipush X dX8_ticks_160 (by decide)) ?_
    refine snd_cons (snd_iadd X dX8_ticks_162) ?_
    refine snd_cons (snd_iload X dX8_ticks_163) ?_
    refine snd_cons (snd_if_ne X dX8_ticks_165 (by decide)) ?_
    refine snd_cons (snd_iload X dX8_ticks_168) ?_
    refine snd_cons (snd_aload_n X dX8_ticks_170 rfl) ?_
    refine snd_cons (snd_getf X Fk8 0 (by decide) w_647 dX8_ticks_171) ?_
    refine snd_cons (snd_iload X dX8_ticks_174) ?_
    refine snd_cons (snd_bipush X dX8_ticks_176 (by decide)) ?_
    refine snd_cons (snd_iadd X dX8_ticks_178) ?_
    refine snd_cons (snd_iaload X dX8_ticks_179) ?_
    refine snd_cons (snd_icmp_ge X dX8_ticks_180 (by decide)) ?_
    refine snd_cons (snd_iload X dX8_ticks_183) ?_
    refine snd_cons (snd_goto X dX8_ticks_185 (by decide)) ?_
    refine snd_cons (snd_aload_n X dX8_ticks_188 rfl) ?_
    refine snd_cons (snd_getf X Fk8 0 (by decide) w_647 dX8_ticks_189) ?_
    refine snd_cons (snd_iload X dX8_ticks_192) ?_
    refine snd_cons (snd_bipush X dX8_ticks_194 (by decide)) ?_
    refine snd_cons (snd_iadd X dX8_ticks_196) ?_
    refine snd_cons (snd_iaload X dX8_ticks_197) ?_
    refine snd_cons (snd_iastore X dX8_ticks_198) ?_
    refine snd_cons (snd_iinc X dX8_ticks_199 (by decide) (by decide)) ?_
    refine snd_cons (snd_goto X dX8_ticks_202 (by decide)) ?_
    refine snd_cons (snd_aload_n X dX8_ticks_205 rfl) ?_
    refine snd_cons (snd_getf X Fk8 0 (by decide) w_647 dX8_ticks_206) ?_
    refine snd_cons (snd_bipush X dX8_ticks_209 (by decide)) ?_
    refine snd_cons (snd_dup2 X dX8_ticks_211) ?_
    refine snd_cons (snd_iaload X dX8_ticks_212) ?_
    refine snd_cons (snd_iconst X dX8_ticks_213 (by decide)) ?_
    refine snd_cons (snd_iadd X dX8_ticks_214) ?_
    exact snd_nil
  refine snd_cons (snd_iastore X dX8_ticks_215) ?_
  refine snd_cons (snd_iconst X dX8_ticks_216 (by decide)) ?_
  refine snd_cons (snd_istore X dX8_ticks_217 (by decide)) ?_
  refine snd_cons (snd_iconst X dX8_ticks_219 (by decide)) ?_
  refine snd_cons (snd_istore X dX8_ticks_220 (by decide)) ?_
  refine snd_cons (snd_iload X dX8_ticks_222) ?_
  refine snd_cons (snd_iconst X dX8_ticks_224 (by decide)) ?_
  refine snd_cons (snd_icmp_ge X dX8_ticks_225 (by decide)) ?_
  refine snd_cons (snd_iload X dX8_ticks_228) ?_
  refine snd_cons (snd_aload_n X dX8_ticks_230 rfl) ?_
  refine snd_cons (snd_iload X dX8_ticks_231) ?_
  refine snd_cons (snd_aload_n X dX8_ticks_233 rfl) ?_
  refine snd_cons (snd_getf X Fk8 6 (by decide) w_653 dX8_ticks_234) ?_
  refine snd_cons (snd_iload X dX8_ticks_237) ?_
  refine snd_cons (snd_iaload X dX8_ticks_239) ?_
  refine snd_cons (snd_iload_n X dX8_ticks_240 rfl) ?_
  refine snd_cons (snd_callV X Fk8 (ok_X8_pulls l D ca) rfl rfl w_833 w_835 wp_35 w_9 w_836 (by decide) (by decide) dX8_ticks_241) ?_
  refine snd_cons (snd_iadd X dX8_ticks_244) ?_
  refine snd_cons (snd_istore X dX8_ticks_245 (by decide)) ?_
  refine snd_cons (snd_iinc X dX8_ticks_247 (by decide) (by decide)) ?_
  refine snd_cons (snd_goto X dX8_ticks_250 (by decide)) ?_
  refine snd_cons (snd_iload X dX8_ticks_253) ?_
  refine snd_cons (snd_ret X dX8_ticks_255) ?_
  exact snd_nil
theorem k_X8_ticks_0 (ca : Nat → ClassId) : k_X8_ticks ca 0 = i_aload 0 1 := rfl
theorem k_X8_ticks_1 (ca : Nat → ClassId) : k_X8_ticks ca 1 = i_push (.int 0) 2 := rfl
theorem k_X8_ticks_2 (ca : Nat → ClassId) : k_X8_ticks ca 2 = i_callV 8 1 0 0 0 0 (sp_X8_warmer ca) 5 := rfl
theorem k_X8_ticks_5 (ca : Nat → ClassId) : k_X8_ticks ca 5 = i_istore 2 6 := rfl
theorem k_X8_ticks_6 (ca : Nat → ClassId) : k_X8_ticks ca 6 = i_aload 0 7 := rfl
theorem k_X8_ticks_7 (ca : Nat → ClassId) : k_X8_ticks ca 7 = i_push (.int 1) 8 := rfl
theorem k_X8_ticks_8 (ca : Nat → ClassId) : k_X8_ticks ca 8 = i_callV 8 1 0 0 0 0 (sp_X8_warmer ca) 11 := rfl
theorem k_X8_ticks_11 (ca : Nat → ClassId) : k_X8_ticks ca 11 = i_istore 3 12 := rfl
theorem k_X8_ticks_12 (ca : Nat → ClassId) : k_X8_ticks ca 12 = i_aload 0 13 := rfl
theorem k_X8_ticks_13 (ca : Nat → ClassId) : k_X8_ticks ca 13 = i_push (.int 2) 14 := rfl
theorem k_X8_ticks_14 (ca : Nat → ClassId) : k_X8_ticks ca 14 = i_callV 8 1 0 0 0 0 (sp_X8_warmer ca) 17 := rfl
theorem k_X8_ticks_17 (ca : Nat → ClassId) : k_X8_ticks ca 17 = i_istore 4 19 := rfl
theorem k_X8_ticks_19 (ca : Nat → ClassId) : k_X8_ticks ca 19 = i_aload 0 20 := rfl
theorem k_X8_ticks_20 (ca : Nat → ClassId) : k_X8_ticks ca 20 = i_getf 8 0 23 := rfl
theorem k_X8_ticks_23 (ca : Nat → ClassId) : k_X8_ticks ca 23 = i_push (.int 9) 25 := rfl
theorem k_X8_ticks_25 (ca : Nat → ClassId) : k_X8_ticks ca 25 = i_ald (ca 0) 26 := rfl
theorem k_X8_ticks_26 (ca : Nat → ClassId) : k_X8_ticks ca 26 = i_if (fun x => ¬ x = 0) 33 29 := rfl
theorem k_X8_ticks_29 (ca : Nat → ClassId) : k_X8_ticks ca 29 = i_push (.int 1) 30 := rfl
theorem k_X8_ticks_30 (ca : Nat → ClassId) : k_X8_ticks ca 30 = i_goto 34 := rfl
theorem k_X8_ticks_33 (ca : Nat → ClassId) : k_X8_ticks ca 33 = i_push (.int 0) 34 := rfl
theorem k_X8_ticks_34 (ca : Nat → ClassId) : k_X8_ticks ca 34 = i_istore 5 36 := rfl
theorem k_X8_ticks_36 (ca : Nat → ClassId) : k_X8_ticks ca 36 = i_push (.int 0) 37 := rfl
theorem k_X8_ticks_37 (ca : Nat → ClassId) : k_X8_ticks ca 37 = i_istore 6 39 := rfl
theorem k_X8_ticks_39 (ca : Nat → ClassId) : k_X8_ticks ca 39 = i_iload 6 41 := rfl
theorem k_X8_ticks_41 (ca : Nat → ClassId) : k_X8_ticks ca 41 = i_push (.int 3) 42 := rfl
theorem k_X8_ticks_42 (ca : Nat → ClassId) : k_X8_ticks ca 42 = i_icmp (fun x y => y ≤ x) 205 45 := rfl
theorem k_X8_ticks_45 (ca : Nat → ClassId) : k_X8_ticks ca 45 = i_iload 6 47 := rfl
theorem k_X8_ticks_47 (ca : Nat → ClassId) : k_X8_ticks ca 47 = i_callS 1 0 0 0 0 (sp_X8_roomAt ca) 50 := rfl
theorem k_X8_ticks_50 (ca : Nat → ClassId) : k_X8_ticks ca 50 = i_istore 7 52 := rfl
theorem k_X8_ticks_52 (ca : Nat → ClassId) : k_X8_ticks ca 52 = i_iload 6 54 := rfl
theorem k_X8_ticks_54 (ca : Nat → ClassId) : k_X8_ticks ca 54 = i_if (fun x => ¬ x = 0) 61 57 := rfl
theorem k_X8_ticks_57 (ca : Nat → ClassId) : k_X8_ticks ca 57 = i_iload 2 58 := rfl
theorem k_X8_ticks_58 (ca : Nat → ClassId) : k_X8_ticks ca 58 = i_goto 73 := rfl
theorem k_X8_ticks_61 (ca : Nat → ClassId) : k_X8_ticks ca 61 = i_iload 6 63 := rfl
theorem k_X8_ticks_63 (ca : Nat → ClassId) : k_X8_ticks ca 63 = i_push (.int 1) 64 := rfl
theorem k_X8_ticks_64 (ca : Nat → ClassId) : k_X8_ticks ca 64 = i_icmp (fun x y => ¬ x = y) 71 67 := rfl
theorem k_X8_ticks_67 (ca : Nat → ClassId) : k_X8_ticks ca 67 = i_iload 3 68 := rfl
theorem k_X8_ticks_68 (ca : Nat → ClassId) : k_X8_ticks ca 68 = i_goto 73 := rfl
theorem k_X8_ticks_71 (ca : Nat → ClassId) : k_X8_ticks ca 71 = i_iload 4 73 := rfl
theorem k_X8_ticks_73 (ca : Nat → ClassId) : k_X8_ticks ca 73 = i_istore 8 75 := rfl
theorem k_X8_ticks_75 (ca : Nat → ClassId) : k_X8_ticks ca 75 = i_aload 0 76 := rfl
theorem k_X8_ticks_76 (ca : Nat → ClassId) : k_X8_ticks ca 76 = i_getf 8 0 79 := rfl
theorem k_X8_ticks_79 (ca : Nat → ClassId) : k_X8_ticks ca 79 = i_iload 7 81 := rfl
theorem k_X8_ticks_81 (ca : Nat → ClassId) : k_X8_ticks ca 81 = i_push (.int 4) 82 := rfl
theorem k_X8_ticks_82 (ca : Nat → ClassId) : k_X8_ticks ca 82 = i_bin (fun x y => x + y) 83 := rfl
theorem k_X8_ticks_83 (ca : Nat → ClassId) : k_X8_ticks ca 83 = i_dup2 84 := rfl
theorem k_X8_ticks_84 (ca : Nat → ClassId) : k_X8_ticks ca 84 = i_ald (ca 0) 85 := rfl
theorem k_X8_ticks_85 (ca : Nat → ClassId) : k_X8_ticks ca 85 = i_aload 0 86 := rfl
theorem k_X8_ticks_86 (ca : Nat → ClassId) : k_X8_ticks ca 86 = i_iload 6 88 := rfl
theorem k_X8_ticks_88 (ca : Nat → ClassId) : k_X8_ticks ca 88 = i_callV 8 1 0 0 0 0 (sp_X8_isClosed ca) 91 := rfl
theorem k_X8_ticks_91 (ca : Nat → ClassId) : k_X8_ticks ca 91 = i_if (fun x => x = 0) 98 94 := rfl
theorem k_X8_ticks_94 (ca : Nat → ClassId) : k_X8_ticks ca 94 = i_push (.int 1) 95 := rfl
theorem k_X8_ticks_95 (ca : Nat → ClassId) : k_X8_ticks ca 95 = i_goto 99 := rfl
theorem k_X8_ticks_98 (ca : Nat → ClassId) : k_X8_ticks ca 98 = i_push (.int 0) 99 := rfl
theorem k_X8_ticks_99 (ca : Nat → ClassId) : k_X8_ticks ca 99 = i_bin (fun x y => x + y) 100 := rfl
theorem k_X8_ticks_100 (ca : Nat → ClassId) : k_X8_ticks ca 100 = i_ast (fun x => x) (ca 0) 101 := rfl
theorem k_X8_ticks_101 (ca : Nat → ClassId) : k_X8_ticks ca 101 = i_aload 0 102 := rfl
theorem k_X8_ticks_102 (ca : Nat → ClassId) : k_X8_ticks ca 102 = i_getf 8 0 105 := rfl
theorem k_X8_ticks_105 (ca : Nat → ClassId) : k_X8_ticks ca 105 = i_iload 7 107 := rfl
theorem k_X8_ticks_107 (ca : Nat → ClassId) : k_X8_ticks ca 107 = i_push (.int 0) 108 := rfl
theorem k_X8_ticks_108 (ca : Nat → ClassId) : k_X8_ticks ca 108 = i_bin (fun x y => x + y) 109 := rfl
theorem k_X8_ticks_109 (ca : Nat → ClassId) : k_X8_ticks ca 109 = i_iload 8 111 := rfl
theorem k_X8_ticks_111 (ca : Nat → ClassId) : k_X8_ticks ca 111 = i_ast (fun x => x) (ca 0) 112 := rfl
theorem k_X8_ticks_112 (ca : Nat → ClassId) : k_X8_ticks ca 112 = i_aload 0 113 := rfl
theorem k_X8_ticks_113 (ca : Nat → ClassId) : k_X8_ticks ca 113 = i_getf 8 0 116 := rfl
theorem k_X8_ticks_116 (ca : Nat → ClassId) : k_X8_ticks ca 116 = i_iload 7 118 := rfl
theorem k_X8_ticks_118 (ca : Nat → ClassId) : k_X8_ticks ca 118 = i_push (.int 5) 119 := rfl
theorem k_X8_ticks_119 (ca : Nat → ClassId) : k_X8_ticks ca 119 = i_bin (fun x y => x + y) 120 := rfl
theorem k_X8_ticks_120 (ca : Nat → ClassId) : k_X8_ticks ca 120 = i_iload 5 122 := rfl
theorem k_X8_ticks_122 (ca : Nat → ClassId) : k_X8_ticks ca 122 = i_if (fun x => ¬ x = 0) 139 125 := rfl
theorem k_X8_ticks_125 (ca : Nat → ClassId) : k_X8_ticks ca 125 = i_iload 8 127 := rfl
theorem k_X8_ticks_127 (ca : Nat → ClassId) : k_X8_ticks ca 127 = i_aload 0 128 := rfl
theorem k_X8_ticks_128 (ca : Nat → ClassId) : k_X8_ticks ca 128 = i_getf 8 0 131 := rfl
theorem k_X8_ticks_131 (ca : Nat → ClassId) : k_X8_ticks ca 131 = i_iload 7 133 := rfl
theorem k_X8_ticks_133 (ca : Nat → ClassId) : k_X8_ticks ca 133 = i_push (.int 5) 134 := rfl
theorem k_X8_ticks_134 (ca : Nat → ClassId) : k_X8_ticks ca 134 = i_bin (fun x y => x + y) 135 := rfl
theorem k_X8_ticks_135 (ca : Nat → ClassId) : k_X8_ticks ca 135 = i_ald (ca 0) 136 := rfl
theorem k_X8_ticks_136 (ca : Nat → ClassId) : k_X8_ticks ca 136 = i_icmp (fun x y => x ≤ y) 144 139 := rfl
theorem k_X8_ticks_139 (ca : Nat → ClassId) : k_X8_ticks ca 139 = i_iload 8 141 := rfl
theorem k_X8_ticks_141 (ca : Nat → ClassId) : k_X8_ticks ca 141 = i_goto 153 := rfl
theorem k_X8_ticks_144 (ca : Nat → ClassId) : k_X8_ticks ca 144 = i_aload 0 145 := rfl
theorem k_X8_ticks_145 (ca : Nat → ClassId) : k_X8_ticks ca 145 = i_getf 8 0 148 := rfl
theorem k_X8_ticks_148 (ca : Nat → ClassId) : k_X8_ticks ca 148 = i_iload 7 150 := rfl
theorem k_X8_ticks_150 (ca : Nat → ClassId) : k_X8_ticks ca 150 = i_push (.int 5) 151 := rfl
theorem k_X8_ticks_151 (ca : Nat → ClassId) : k_X8_ticks ca 151 = i_bin (fun x y => x + y) 152 := rfl
theorem k_X8_ticks_152 (ca : Nat → ClassId) : k_X8_ticks ca 152 = i_ald (ca 0) 153 := rfl
theorem k_X8_ticks_153 (ca : Nat → ClassId) : k_X8_ticks ca 153 = i_ast (fun x => x) (ca 0) 154 := rfl
theorem k_X8_ticks_154 (ca : Nat → ClassId) : k_X8_ticks ca 154 = i_aload 0 155 := rfl
theorem k_X8_ticks_155 (ca : Nat → ClassId) : k_X8_ticks ca 155 = i_getf 8 0 158 := rfl
theorem k_X8_ticks_158 (ca : Nat → ClassId) : k_X8_ticks ca 158 = i_iload 7 160 := rfl
theorem k_X8_ticks_160 (ca : Nat → ClassId) : k_X8_ticks ca 160 = i_push (.int 6) 162 := rfl
theorem k_X8_ticks_162 (ca : Nat → ClassId) : k_X8_ticks ca 162 = i_bin (fun x y => x + y) 163 := rfl
theorem k_X8_ticks_163 (ca : Nat → ClassId) : k_X8_ticks ca 163 = i_iload 5 165 := rfl
theorem k_X8_ticks_165 (ca : Nat → ClassId) : k_X8_ticks ca 165 = i_if (fun x => ¬ x = 0) 183 168 := rfl
theorem k_X8_ticks_168 (ca : Nat → ClassId) : k_X8_ticks ca 168 = i_iload 8 170 := rfl
theorem k_X8_ticks_170 (ca : Nat → ClassId) : k_X8_ticks ca 170 = i_aload 0 171 := rfl
theorem k_X8_ticks_171 (ca : Nat → ClassId) : k_X8_ticks ca 171 = i_getf 8 0 174 := rfl
theorem k_X8_ticks_174 (ca : Nat → ClassId) : k_X8_ticks ca 174 = i_iload 7 176 := rfl
theorem k_X8_ticks_176 (ca : Nat → ClassId) : k_X8_ticks ca 176 = i_push (.int 6) 178 := rfl
theorem k_X8_ticks_178 (ca : Nat → ClassId) : k_X8_ticks ca 178 = i_bin (fun x y => x + y) 179 := rfl
theorem k_X8_ticks_179 (ca : Nat → ClassId) : k_X8_ticks ca 179 = i_ald (ca 0) 180 := rfl
theorem k_X8_ticks_180 (ca : Nat → ClassId) : k_X8_ticks ca 180 = i_icmp (fun x y => y ≤ x) 188 183 := rfl
theorem k_X8_ticks_183 (ca : Nat → ClassId) : k_X8_ticks ca 183 = i_iload 8 185 := rfl
theorem k_X8_ticks_185 (ca : Nat → ClassId) : k_X8_ticks ca 185 = i_goto 198 := rfl
theorem k_X8_ticks_188 (ca : Nat → ClassId) : k_X8_ticks ca 188 = i_aload 0 189 := rfl
theorem k_X8_ticks_189 (ca : Nat → ClassId) : k_X8_ticks ca 189 = i_getf 8 0 192 := rfl
theorem k_X8_ticks_192 (ca : Nat → ClassId) : k_X8_ticks ca 192 = i_iload 7 194 := rfl
theorem k_X8_ticks_194 (ca : Nat → ClassId) : k_X8_ticks ca 194 = i_push (.int 6) 196 := rfl
theorem k_X8_ticks_196 (ca : Nat → ClassId) : k_X8_ticks ca 196 = i_bin (fun x y => x + y) 197 := rfl
theorem k_X8_ticks_197 (ca : Nat → ClassId) : k_X8_ticks ca 197 = i_ald (ca 0) 198 := rfl
theorem k_X8_ticks_198 (ca : Nat → ClassId) : k_X8_ticks ca 198 = i_ast (fun x => x) (ca 0) 199 := rfl
theorem k_X8_ticks_199 (ca : Nat → ClassId) : k_X8_ticks ca 199 = i_iinc 6 1 202 := rfl
theorem k_X8_ticks_202 (ca : Nat → ClassId) : k_X8_ticks ca 202 = i_goto 39 := rfl
theorem k_X8_ticks_205 (ca : Nat → ClassId) : k_X8_ticks ca 205 = i_aload 0 206 := rfl
theorem k_X8_ticks_206 (ca : Nat → ClassId) : k_X8_ticks ca 206 = i_getf 8 0 209 := rfl
theorem k_X8_ticks_209 (ca : Nat → ClassId) : k_X8_ticks ca 209 = i_push (.int 9) 211 := rfl
theorem k_X8_ticks_211 (ca : Nat → ClassId) : k_X8_ticks ca 211 = i_dup2 212 := rfl
theorem k_X8_ticks_212 (ca : Nat → ClassId) : k_X8_ticks ca 212 = i_ald (ca 0) 213 := rfl
theorem k_X8_ticks_213 (ca : Nat → ClassId) : k_X8_ticks ca 213 = i_push (.int 1) 214 := rfl
theorem k_X8_ticks_214 (ca : Nat → ClassId) : k_X8_ticks ca 214 = i_bin (fun x y => x + y) 215 := rfl
theorem k_X8_ticks_215 (ca : Nat → ClassId) : k_X8_ticks ca 215 = i_ast (fun x => x) (ca 0) 216 := rfl
theorem k_X8_ticks_216 (ca : Nat → ClassId) : k_X8_ticks ca 216 = i_push (.int 0) 217 := rfl
theorem k_X8_ticks_217 (ca : Nat → ClassId) : k_X8_ticks ca 217 = i_istore 6 219 := rfl
theorem k_X8_ticks_219 (ca : Nat → ClassId) : k_X8_ticks ca 219 = i_push (.int 0) 220 := rfl
theorem k_X8_ticks_220 (ca : Nat → ClassId) : k_X8_ticks ca 220 = i_istore 7 222 := rfl
theorem k_X8_ticks_222 (ca : Nat → ClassId) : k_X8_ticks ca 222 = i_iload 7 224 := rfl
theorem k_X8_ticks_224 (ca : Nat → ClassId) : k_X8_ticks ca 224 = i_push (.int 3) 225 := rfl
theorem k_X8_ticks_225 (ca : Nat → ClassId) : k_X8_ticks ca 225 = i_icmp (fun x y => y ≤ x) 253 228 := rfl
theorem k_X8_ticks_228 (ca : Nat → ClassId) : k_X8_ticks ca 228 = i_iload 6 230 := rfl
theorem k_X8_ticks_230 (ca : Nat → ClassId) : k_X8_ticks ca 230 = i_aload 0 231 := rfl
theorem k_X8_ticks_231 (ca : Nat → ClassId) : k_X8_ticks ca 231 = i_iload 7 233 := rfl
theorem k_X8_ticks_233 (ca : Nat → ClassId) : k_X8_ticks ca 233 = i_aload 0 234 := rfl
theorem k_X8_ticks_234 (ca : Nat → ClassId) : k_X8_ticks ca 234 = i_getf 8 6 237 := rfl
theorem k_X8_ticks_237 (ca : Nat → ClassId) : k_X8_ticks ca 237 = i_iload 7 239 := rfl
theorem k_X8_ticks_239 (ca : Nat → ClassId) : k_X8_ticks ca 239 = i_ald (ca 0) 240 := rfl
theorem k_X8_ticks_240 (ca : Nat → ClassId) : k_X8_ticks ca 240 = i_iload 1 241 := rfl
theorem k_X8_ticks_241 (ca : Nat → ClassId) : k_X8_ticks ca 241 = i_callV 8 3 0 0 0 0 (sp_X8_pulls ca) 244 := rfl
theorem k_X8_ticks_244 (ca : Nat → ClassId) : k_X8_ticks ca 244 = i_bin (fun x y => x + y) 245 := rfl
theorem k_X8_ticks_245 (ca : Nat → ClassId) : k_X8_ticks ca 245 = i_istore 6 247 := rfl
theorem k_X8_ticks_247 (ca : Nat → ClassId) : k_X8_ticks ca 247 = i_iinc 7 1 250 := rfl
theorem k_X8_ticks_250 (ca : Nat → ClassId) : k_X8_ticks ca 250 = i_goto 222 := rfl
theorem k_X8_ticks_253 (ca : Nat → ClassId) : k_X8_ticks ca 253 = i_iload 6 255 := rfl
theorem k_X8_ticks_255 (ca : Nat → ClassId) : k_X8_ticks ca 255 = i_ret := rfl
