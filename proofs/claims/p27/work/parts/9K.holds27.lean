/-! holds -/
def sp_L_holds (ca : Nat → ClassId) : SPEC := fun av h post => ∃ g B s ss T n f x, av = [.ref (g 0), .int x] ∧ LC ca h g B s ss T n f ∧ ∀ h', LC ca h' g B s ss T n f → post (some (.int 1)) h'
def k_L_holds (g : Nat → Nat) (B : Nat) (s : Nat → Int32) (ss : Nat) (T : Nat → Int32) (n : Nat) (f : Nat → Int32) (ca : Nat → ClassId) : Nat → IT := fun pc => if pc < 63 then lk pc [(0, i_push (.int 0) 1),
  (1, i_istore 2 2),
  (2, i_push (.int 0) 3),
  (3, i_istore 3 4),
  (4, i_iload 3 5),
  (5, i_push (.int 3) 6),
  (6, i_icmp (fun x y => y ≤ x) 442 9),
  (9, i_push (.int 0) 10),
  (10, i_istore 4 12),
  (12, i_push (.int 0) 13),
  (13, i_istore 5 15),
  (15, i_aload 0 16),
  (16, i_iload 3 17),
  (17, i_push (.int 0) 18),
  (18, i_callV 7 2 0 0 0 0 (sq_roomOf g B s ss T n f ca) 21),
  (21, i_istore 6 23),
  (23, i_push (.int 0) 24),
  (24, i_istore 7 26),
  (26, i_iload 7 28),
  (28, i_aload 0 29),
  (29, i_iload 3 30),
  (30, i_push (.int 0) 31),
  (31, i_callV 7 2 0 0 0 0 (sq_stripOf g B s ss T n f ca) 34),
  (34, i_icmp (fun x y => y ≤ x) 122 37),
  (37, i_iload 4 39),
  (39, i_aload 0 40),
  (40, i_iload 3 41),
  (41, i_iload 7 43),
  (43, i_push (.int 0) 44),
  (44, i_callV 7 3 0 0 0 0 (sq_partOf g B s ss T n f ca) 47),
  (47, i_bin (fun x y => x + y) 48),
  (48, i_istore 4 50),
  (50, i_iload 5 52),
  (52, i_aload 0 53),
  (53, i_iload 3 54),
  (54, i_iload 7 56),
  (56, i_push (.int 3) 57),
  (57, i_callV 7 3 0 0 0 0 (sq_partOf g B s ss T n f ca) 60),
  (60, i_bin (fun x y => x + y) 61),
  (61, i_istore 5 63)] else
  if pc < 130 then lk pc [(63, i_aload 0 64),
  (64, i_iload 3 65),
  (65, i_iload 7 67),
  (67, i_push (.int 3) 68),
  (68, i_callV 7 3 0 0 0 0 (sq_partOf g B s ss T n f ca) 71),
  (71, i_aload 0 72),
  (72, i_iload 3 73),
  (73, i_iload 7 75),
  (75, i_push (.int 0) 76),
  (76, i_callV 7 3 0 0 0 0 (sq_partOf g B s ss T n f ca) 79),
  (79, i_aload 0 80),
  (80, i_push (.int 10) 82),
  (82, i_aload 0 83),
  (83, i_iload 3 84),
  (84, i_iload 7 86),
  (86, i_push (.int 1) 87),
  (87, i_callV 7 3 0 0 0 0 (sq_partOf g B s ss T n f ca) 90),
  (90, i_bin (fun x y => x + y) 91),
  (91, i_callV 7 1 0 0 0 0 (sq_count g B s ss T n f ca) 94),
  (94, i_aload 0 95),
  (95, i_push (.int 10) 97),
  (97, i_aload 0 98),
  (98, i_iload 3 99),
  (99, i_iload 7 101),
  (101, i_push (.int 2) 102),
  (102, i_callV 7 3 0 0 0 0 (sq_partOf g B s ss T n f ca) 105),
  (105, i_bin (fun x y => x + y) 106),
  (106, i_callV 7 1 0 0 0 0 (sq_count g B s ss T n f ca) 109),
  (109, i_bin (fun x y => x - y) 110),
  (110, i_bin (fun x y => x * y) 111),
  (111, i_icmp (fun x y => x = y) 116 114),
  (114, i_push (.int 0) 115),
  (115, i_zret),
  (116, i_iinc 7 1 119),
  (119, i_goto 26),
  (122, i_iload 2 123),
  (123, i_aload 0 124),
  (124, i_iload 3 125),
  (125, i_push (.int 9) 127),
  (127, i_callV 7 2 0 0 0 0 (sq_stripOf g B s ss T n f ca) 130)] else
  if pc < 204 then lk pc [(130, i_bin (fun x y => x + y) 131),
  (131, i_istore 2 132),
  (132, i_iload 1 133),
  (133, i_iload 3 134),
  (134, i_bin (fun x y => x >>> (y &&& 31)) 135),
  (135, i_push (.int 2) 136),
  (136, i_callS 2 0 0 0 0 (sp_L_low ca) 139),
  (139, i_istore 7 141),
  (141, i_aload 0 142),
  (142, i_iload 3 143),
  (143, i_iload 7 145),
  (145, i_callV 7 2 0 0 0 0 (sq_tripsAt g B s ss T n f ca) 148),
  (148, i_istore 8 150),
  (150, i_iload 8 152),
  (152, i_push (.int (-10000004)) 154),
  (154, i_icmp (fun x y => ¬ x = y) 161 157),
  (157, i_push (.int 0) 158),
  (158, i_goto 168),
  (161, i_aload 0 162),
  (162, i_iload 3 163),
  (163, i_iload 8 165),
  (165, i_callV 7 2 0 0 0 0 (sq_bend g B s ss T n f ca) 168),
  (168, i_istore 9 170),
  (170, i_iload 8 172),
  (172, i_push (.int (-10000004)) 174),
  (174, i_icmp (fun x y => x = y) 207 177),
  (177, i_iload 7 179),
  (179, i_if (fun x => ¬ x = 0) 196 182),
  (182, i_iload 9 184),
  (184, i_aload 0 185),
  (185, i_iload 3 186),
  (186, i_push (.int 5) 187),
  (187, i_callV 7 2 0 0 0 0 (sq_stripOf g B s ss T n f ca) 190),
  (190, i_icmp (fun x y => x < y) 211 193),
  (193, i_goto 207),
  (196, i_iload 9 198),
  (198, i_aload 0 199),
  (199, i_iload 3 200),
  (200, i_push (.int 4) 201),
  (201, i_callV 7 2 0 0 0 0 (sq_stripOf g B s ss T n f ca) 204)] else
  if pc < 276 then lk pc [(204, i_icmp (fun x y => y < x) 211 207),
  (207, i_push (.int 1) 208),
  (208, i_goto 212),
  (211, i_push (.int 0) 212),
  (212, i_istore 10 214),
  (214, i_aload 0 215),
  (215, i_iload 3 216),
  (216, i_push (.int 1) 217),
  (217, i_callV 7 2 0 0 0 0 (sq_stripOf g B s ss T n f ca) 220),
  (220, i_iload 4 222),
  (222, i_icmp (fun x y => ¬ x = y) 341 225),
  (225, i_aload 0 226),
  (226, i_iload 3 227),
  (227, i_push (.int 2) 228),
  (228, i_callV 7 2 0 0 0 0 (sq_stripOf g B s ss T n f ca) 231),
  (231, i_iload 5 233),
  (233, i_icmp (fun x y => ¬ x = y) 341 236),
  (236, i_aload 0 237),
  (237, i_iload 3 238),
  (238, i_push (.int 3) 239),
  (239, i_callV 7 2 0 0 0 0 (sq_stripOf g B s ss T n f ca) 242),
  (242, i_iload 5 244),
  (244, i_iload 6 246),
  (246, i_push (.int 200) 249),
  (249, i_bin (fun x y => x - y) 250),
  (250, i_bin (fun x y => x * y) 251),
  (251, i_icmp (fun x y => ¬ x = y) 341 254),
  (254, i_aload 0 255),
  (255, i_iload 3 256),
  (256, i_iload 6 258),
  (258, i_callV 7 2 0 0 0 0 (sq_bend g B s ss T n f ca) 261),
  (261, i_aload 0 262),
  (262, i_iload 3 263),
  (263, i_push (.int 3) 264),
  (264, i_callV 7 2 0 0 0 0 (sq_stripOf g B s ss T n f ca) 267),
  (267, i_icmp (fun x y => ¬ x = y) 341 270),
  (270, i_aload 0 271),
  (271, i_iload 3 272),
  (272, i_push (.int 4) 273),
  (273, i_callV 7 2 0 0 0 0 (sq_stripOf g B s ss T n f ca) 276)] else
  if pc < 352 then lk pc [(276, i_aload 0 277),
  (277, i_iload 3 278),
  (278, i_push (.int 5) 279),
  (279, i_callV 7 2 0 0 0 0 (sq_stripOf g B s ss T n f ca) 282),
  (282, i_icmp (fun x y => y ≤ x) 341 285),
  (285, i_aload 0 286),
  (286, i_iload 3 287),
  (287, i_push (.int 8) 289),
  (289, i_callV 7 2 0 0 0 0 (sq_stripOf g B s ss T n f ca) 292),
  (292, i_push (.int 5) 293),
  (293, i_icmp (fun x y => y < x) 341 296),
  (296, i_aload 0 297),
  (297, i_iload 3 298),
  (298, i_push (.int 11) 300),
  (300, i_callV 7 2 0 0 0 0 (sq_stripOf g B s ss T n f ca) 303),
  (303, i_push (.int 1) 304),
  (304, i_icmp (fun x y => ¬ x = y) 311 307),
  (307, i_push (.int 1) 308),
  (308, i_goto 312),
  (311, i_push (.int 0) 312),
  (312, i_aload 0 313),
  (313, i_iload 3 314),
  (314, i_push (.int 7) 316),
  (316, i_callV 7 2 0 0 0 0 (sq_stripOf g B s ss T n f ca) 319),
  (319, i_aload 0 320),
  (320, i_iload 3 321),
  (321, i_push (.int 10) 323),
  (323, i_callV 7 2 0 0 0 0 (sq_stripOf g B s ss T n f ca) 326),
  (326, i_icmp (fun x y => ¬ x = y) 333 329),
  (329, i_push (.int 1) 330),
  (330, i_goto 334),
  (333, i_push (.int 0) 334),
  (334, i_icmp (fun x y => ¬ x = y) 341 337),
  (337, i_push (.int 1) 338),
  (338, i_goto 342),
  (341, i_push (.int 0) 342),
  (342, i_istore 11 344),
  (344, i_iload 6 346),
  (346, i_push (.int (-500)) 349),
  (349, i_icmp (fun x y => x < y) 416 352)] else
  if pc < 431 then lk pc [(352, i_iload 6 354),
  (354, i_push (.int 1500) 357),
  (357, i_icmp (fun x y => y < x) 416 360),
  (360, i_aload 0 361),
  (361, i_push (.int 0) 362),
  (362, i_callV 7 1 0 0 0 0 (sq_count g B s ss T n f ca) 365),
  (365, i_if (fun x => ¬ x = 0) 382 368),
  (368, i_aload 0 369),
  (369, i_iload 3 370),
  (370, i_push (.int 5) 371),
  (371, i_callV 7 2 0 0 0 0 (sq_roomOf g B s ss T n f ca) 374),
  (374, i_push (.int (-10000004)) 376),
  (376, i_icmp (fun x y => ¬ x = y) 416 379),
  (379, i_goto 398),
  (382, i_aload 0 383),
  (383, i_iload 3 384),
  (384, i_push (.int 6) 386),
  (386, i_callV 7 2 0 0 0 0 (sq_roomOf g B s ss T n f ca) 389),
  (389, i_aload 0 390),
  (390, i_iload 3 391),
  (391, i_push (.int 5) 392),
  (392, i_callV 7 2 0 0 0 0 (sq_roomOf g B s ss T n f ca) 395),
  (395, i_icmp (fun x y => y < x) 416 398),
  (398, i_aload 0 399),
  (399, i_iload 3 400),
  (400, i_push (.int 4) 401),
  (401, i_callV 7 2 0 0 0 0 (sq_roomOf g B s ss T n f ca) 404),
  (404, i_aload 0 405),
  (405, i_push (.int 0) 406),
  (406, i_callV 7 1 0 0 0 0 (sq_count g B s ss T n f ca) 409),
  (409, i_icmp (fun x y => y < x) 416 412),
  (412, i_push (.int 1) 413),
  (413, i_goto 417),
  (416, i_push (.int 0) 417),
  (417, i_istore 12 419),
  (419, i_iload 11 421),
  (421, i_if (fun x => x = 0) 434 424),
  (424, i_iload 12 426),
  (426, i_if (fun x => x = 0) 434 429),
  (429, i_iload 10 431)] else
  lk pc [(431, i_if (fun x => ¬ x = 0) 436 434),
  (434, i_push (.int 0) 435),
  (435, i_zret),
  (436, i_iinc 3 1 439),
  (439, i_goto 4),
  (442, i_iload 2 443),
  (443, i_aload 0 444),
  (444, i_push (.int 1) 445),
  (445, i_callV 7 1 0 0 0 0 (sq_count g B s ss T n f ca) 448),
  (448, i_icmp (fun x y => ¬ x = y) 488 451),
  (451, i_aload 0 452),
  (452, i_push (.int 0) 453),
  (453, i_callV 7 1 0 0 0 0 (sp_X7_loop ca) 456),
  (456, i_push (.int (-10000004)) 458),
  (458, i_icmp (fun x y => ¬ x = y) 465 461),
  (461, i_push (.int 1) 462),
  (462, i_goto 466),
  (465, i_push (.int 0) 466),
  (466, i_aload 0 467),
  (467, i_push (.int 1) 468),
  (468, i_callV 7 1 0 0 0 0 (sp_X7_loop ca) 471),
  (471, i_push (.int (-10000004)) 473),
  (473, i_icmp (fun x y => ¬ x = y) 480 476),
  (476, i_push (.int 1) 477),
  (477, i_goto 481),
  (480, i_push (.int 0) 481),
  (481, i_icmp (fun x y => ¬ x = y) 488 484),
  (484, i_push (.int 1) 485),
  (485, i_goto 489),
  (488, i_push (.int 0) 489),
  (489, i_zret)]
set_option maxRecDepth 20000 in
theorem t_L_holds (g : Nat → Nat) (B : Nat) (s : Nat → Int32) (ss : Nat) (T : Nat → Int32) (n : Nat) (f : Nat → Int32) : Tb (k_L_holds g B s ss T n f) yL_holds cL_holds 13 (some .boolean) 6 0 0 := by
  intro l D ca A p e s0 m args below meth c post X
  unfold k_L_holds
  refine snd_split (63) ?_ ?_
  · refine snd_cons (snd_iconst X dL_holds_0 (by decide)) ?_
    refine snd_cons (snd_istore_n X dL_holds_1 rfl (by decide)) ?_
    refine snd_cons (snd_iconst X dL_holds_2 (by decide)) ?_
    refine snd_cons (snd_istore_n X dL_holds_3 rfl (by decide)) ?_
    refine snd_cons (snd_iload_n X dL_holds_4 rfl) ?_
    refine snd_cons (snd_iconst X dL_holds_5 (by decide)) ?_
    refine snd_cons (snd_icmp_ge X dL_holds_6 (by decide)) ?_
    refine snd_cons (snd_iconst X dL_holds_9 (by decide)) ?_
    refine snd_cons (snd_istore X dL_holds_10 (by decide)) ?_
    refine snd_cons (snd_iconst X dL_holds_12 (by decide)) ?_
    refine snd_cons (snd_istore X dL_holds_13 (by decide)) ?_
    refine snd_cons (snd_aload_n X dL_holds_15 rfl) ?_
    refine snd_cons (snd_iload_n X dL_holds_16 rfl) ?_
    refine snd_cons (snd_iconst X dL_holds_17 (by decide)) ?_
    refine snd_cons (snd_callV X Fk7 (oq_roomOf g B s ss T n f l D ca) rfl rfl w_357 w_358 w_359 w_1 w_360 (by decide) (by decide) dL_holds_18) ?_
    refine snd_cons (snd_istore X dL_holds_21 (by decide)) ?_
    refine snd_cons (snd_iconst X dL_holds_23 (by decide)) ?_
    refine snd_cons (snd_istore X dL_holds_24 (by decide)) ?_
    refine snd_cons (snd_iload X dL_holds_26) ?_
    refine snd_cons (snd_aload_n X dL_holds_28 rfl) ?_
    refine snd_cons (snd_iload_n X dL_holds_29 rfl) ?_
    refine snd_cons (snd_iconst X dL_holds_30 (by decide)) ?_
    refine snd_cons (snd_callV X Fk7 (oq_stripOf g B s ss T n f l D ca) rfl rfl w_323 w_324 w_325 w_1 w_326 (by decide) (by decide) dL_holds_31) ?_
    refine snd_cons (snd_icmp_ge X dL_holds_34 (by decide)) ?_
    refine snd_cons (snd_iload X dL_holds_37) ?_
    refine snd_cons (snd_aload_n X dL_holds_39 rfl) ?_
    refine snd_cons (snd_iload_n X dL_holds_40 rfl) ?_
    refine snd_cons (snd_iload X dL_holds_41) ?_
    refine snd_cons (snd_iconst X dL_holds_43 (by decide)) ?_
    refine snd_cons (snd_callV X Fk7 (oq_partOf g B s ss T n f l D ca) rfl rfl w_362 w_363 w_364 w_1 w_365 (by decide) (by decide) dL_holds_44) ?_
    refine snd_cons (snd_iadd X dL_holds_47) ?_
    refine snd_cons (snd_istore X dL_holds_48 (by decide)) ?_
    refine snd_cons (snd_iload X dL_holds_50) ?_
    refine snd_cons (snd_aload_n X dL_holds_52 rfl) ?_
    refine snd_cons (snd_iload_n X dL_holds_53 rfl) ?_
    refine snd_cons (snd_iload X dL_holds_54) ?_
    refine snd_cons (snd_iconst X dL_holds_56 (by decide)) ?_
    refine snd_cons (snd_callV X Fk7 (oq_partOf g B s ss T n f l D ca) rfl rfl w_362 w_363 w_364 w_1 w_365 (by decide) (by decide) dL_holds_57) ?_
    refine snd_cons (snd_iadd X dL_holds_60) ?_
    refine snd_cons (snd_istore X dL_holds_61 (by decide)) ?_
    exact snd_nil
  refine snd_split (130) ?_ ?_
  · refine snd_cons (snd_aload_n X dL_holds_63 rfl) ?_
    refine snd_cons (snd_iload_n X dL_holds_64 rfl) ?_
    refine snd_cons (snd_iload X dL_holds_65) ?_
    refine snd_cons (snd_iconst X dL_holds_67 (by decide)) ?_
    refine snd_cons (snd_callV X Fk7 (oq_partOf g B s ss T n f l D ca) rfl rfl w_362 w_363 w_364 w_1 w_365 (by decide) (by decide) dL_holds_68) ?_
    refine snd_cons (snd_aload_n X dL_holds_71 rfl) ?_
    refine snd_cons (snd_iload_n X dL_holds_72 rfl) ?_
    refine snd_cons (snd_iload X dL_holds_73) ?_
    refine snd_cons (snd_iconst X dL_holds_75 (by decide)) ?_
    refine snd_cons (snd_callV X Fk7 (oq_partOf g B s ss T n f l D ca) rfl rfl w_362 w_363 w_364 w_1 w_365 (by decide) (by decide) dL_holds_76) ?_
    refine snd_cons (snd_aload_n X dL_holds_79 rfl) ?_
    refine snd_cons (snd_bipush X dL_holds_80 (by decide)) ?_
    refine snd_cons (snd_aload_n X dL_holds_82 rfl) ?_
    refine snd_cons (snd_iload_n X dL_holds_83 rfl) ?_
    refine snd_cons (snd_iload X dL_holds_84) ?_
    refine snd_cons (snd_iconst X dL_holds_86 (by decide)) ?_
    refine snd_cons (snd_callV X Fk7 (oq_partOf g B s ss T n f l D ca) rfl rfl w_362 w_363 w_364 w_1 w_365 (by decide) (by decide) dL_holds_87) ?_
    refine snd_cons (snd_iadd X dL_holds_90) ?_
    refine snd_cons (snd_callV X Fk7 (oq_count g B s ss T n f l D ca) rfl rfl w_269 w_270 w_271 w_1 w_272 (by decide) (by decide) dL_holds_91) ?_
    refine snd_cons (snd_aload_n X dL_holds_94 rfl) ?_
    refine snd_cons (snd_bipush X dL_holds_95 (by decide)) ?_
    refine snd_cons (snd_aload_n X dL_holds_97 rfl) ?_
    refine snd_cons (snd_iload_n X dL_holds_98 rfl) ?_
    refine snd_cons (snd_iload X dL_holds_99) ?_
    refine snd_cons (snd_iconst X dL_holds_101 (by decide)) ?_
    refine snd_cons (snd_callV X Fk7 (oq_partOf g B s ss T n f l D ca) rfl rfl w_362 w_363 w_364 w_1 w_365 (by decide) (by decide) dL_holds_102) ?_
    refine snd_cons (snd_iadd X dL_holds_105) ?_
    refine snd_cons (snd_callV X Fk7 (oq_count g B s ss T n f l D ca) rfl rfl w_269 w_270 w_271 w_1 w_272 (by decide) (by decide) dL_holds_106) ?_
    refine snd_cons (snd_isub X dL_holds_109) ?_
    refine snd_cons (snd_imul X dL_holds_110) ?_
    refine snd_cons (snd_icmp_eq X dL_holds_111 (by decide)) ?_
    refine snd_cons (snd_iconst X dL_holds_114 (by decide)) ?_
    refine snd_cons (snd_zret X dL_holds_115) ?_
    refine snd_cons (snd_iinc X dL_holds_116 (by decide) (by decide)) ?_
    refine snd_cons (snd_goto X dL_holds_119 (by decide)) ?_
    refine snd_cons (snd_iload_n X dL_holds_122 rfl) ?_
    refine snd_cons (snd_aload_n X dL_holds_123 rfl) ?_
    refine snd_cons (snd_iload_n X dL_holds_124 rfl) ?_
    refine snd_cons (snd_bipush X dL_holds_125 (by decide)) ?_
    refine snd_cons (snd_callV X Fk7 (oq_stripOf g B s ss T n f l D ca) rfl rfl w_323 w_324 w_325 w_1 w_326 (by decide) (by decide) dL_holds_127) ?_
    exact snd_nil
  refine snd_split (204) ?_ ?_
  · refine snd_cons (snd_iadd X dL_holds_130) ?_
    refine snd_cons (snd_istore_n X dL_holds_131 rfl (by decide)) ?_
    refine snd_cons (snd_iload_n X dL_holds_132 rfl) ?_
    refine snd_cons (snd_iload_n X dL_holds_133 rfl) ?_
    refine snd_cons (snd_ishr X dL_holds_134) ?_
    refine snd_cons (snd_iconst X dL_holds_135 (by decide)) ?_
    refine snd_cons (snd_callS X (ok_L_low l D ca) rfl rfl w_314 w_315 w_0 w_316 (by decide) (by decide) dL_holds_136) ?_
    refine snd_cons (snd_istore X dL_holds_139 (by decide)) ?_
    refine snd_cons (snd_aload_n X dL_holds_141 rfl) ?_
    refine snd_cons (snd_iload_n X dL_holds_142 rfl) ?_
    refine snd_cons (snd_iload X dL_holds_143) ?_
    refine snd_cons (snd_callV X Fk7 (oq_tripsAt g B s ss T n f l D ca) rfl rfl w_370 w_371 w_372 w_1 w_373 (by decide) (by decide) dL_holds_145) ?_
    refine snd_cons (snd_istore X dL_holds_148 (by decide)) ?_
    refine snd_cons (snd_iload X dL_holds_150) ?_
    refine snd_cons (snd_ldc X w_390 dL_holds_152) ?_
    refine snd_cons (snd_icmp_ne X dL_holds_154 (by decide)) ?_
    refine snd_cons (snd_iconst X dL_holds_157 (by decide)) ?_
    refine snd_cons (snd_goto X dL_holds_158 (by decide)) ?_
    refine snd_cons (snd_aload_n X dL_holds_161 rfl) ?_
    refine snd_cons (snd_iload_n X dL_holds_162 rfl) ?_
    refine snd_cons (snd_iload X dL_holds_163) ?_
    refine snd_cons (snd_callV X Fk7 (oq_bend g B s ss T n f l D ca) rfl rfl w_391 w_392 w_393 w_1 w_394 (by decide) (by decide) dL_holds_165) ?_
    refine snd_cons (snd_istore X dL_holds_168 (by decide)) ?_
    refine snd_cons (snd_iload X dL_holds_170) ?_
    refine snd_cons (snd_ldc X w_390 dL_holds_172) ?_
    refine snd_cons (snd_icmp_eq X dL_holds_174 (by decide)) ?_
    refine snd_cons (snd_iload X dL_holds_177) ?_
    refine snd_cons (snd_if_ne X dL_holds_179 (by decide)) ?_
    refine snd_cons (snd_iload X dL_holds_182) ?_
    refine snd_cons (snd_aload_n X dL_holds_184 rfl) ?_
    refine snd_cons (snd_iload_n X dL_holds_185 rfl) ?_
    refine snd_cons (snd_iconst X dL_holds_186 (by decide)) ?_
    refine snd_cons (snd_callV X Fk7 (oq_stripOf g B s ss T n f l D ca) rfl rfl w_323 w_324 w_325 w_1 w_326 (by decide) (by decide) dL_holds_187) ?_
    refine snd_cons (snd_icmp_lt X dL_holds_190 (by decide)) ?_
    refine snd_cons (snd_goto X dL_holds_193 (by decide)) ?_
    refine snd_cons (snd_iload X dL_holds_196) ?_
    refine snd_cons (snd_aload_n X dL_holds_198 rfl) ?_
    refine snd_cons (snd_iload_n X dL_holds_199 rfl) ?_
    refine snd_cons (snd_iconst X dL_holds_200 (by decide)) ?_
    refine snd_cons (snd_callV X Fk7 (oq_stripOf g B s ss T n f l D ca) rfl rfl w_323 w_324 w_325 w_1 w_326 (by decide) (by decide) dL_holds_201) ?_
    exact snd_nil
  refine snd_split (276) ?_ ?_
  · refine snd_cons (snd_icmp_gt X dL_holds_204 (by decide)) ?_
    refine snd_cons (snd_iconst X dL_holds_207 (by decide)) ?_
    refine snd_cons (snd_goto X dL_holds_208 (by decide)) ?_
    refine snd_cons (snd_iconst X dL_holds_211 (by decide)) ?_
    refine snd_cons (snd_istore X dL_holds_212 (by decide)) ?_
    refine snd_cons (snd_aload_n X dL_holds_214 rfl) ?_
    refine snd_cons (snd_iload_n X dL_holds_215 rfl) ?_
    refine snd_cons (snd_iconst X dL_holds_216 (by decide)) ?_
    refine snd_cons (snd_callV X Fk7 (oq_stripOf g B s ss T n f l D ca) rfl rfl w_323 w_324 w_325 w_1 w_326 (by decide) (by decide) dL_holds_217) ?_
    refine snd_cons (snd_iload X dL_holds_220) ?_
    refine snd_cons (snd_icmp_ne X dL_holds_222 (by decide)) ?_
    refine snd_cons (snd_aload_n X dL_holds_225 rfl) ?_
    refine snd_cons (snd_iload_n X dL_holds_226 rfl) ?_
    refine snd_cons (snd_iconst X dL_holds_227 (by decide)) ?_
    refine snd_cons (snd_callV X Fk7 (oq_stripOf g B s ss T n f l D ca) rfl rfl w_323 w_324 w_325 w_1 w_326 (by decide) (by decide) dL_holds_228) ?_
    refine snd_cons (snd_iload X dL_holds_231) ?_
    refine snd_cons (snd_icmp_ne X dL_holds_233 (by decide)) ?_
    refine snd_cons (snd_aload_n X dL_holds_236 rfl) ?_
    refine snd_cons (snd_iload_n X dL_holds_237 rfl) ?_
    refine snd_cons (snd_iconst X dL_holds_238 (by decide)) ?_
    refine snd_cons (snd_callV X Fk7 (oq_stripOf g B s ss T n f l D ca) rfl rfl w_323 w_324 w_325 w_1 w_326 (by decide) (by decide) dL_holds_239) ?_
    refine snd_cons (snd_iload X dL_holds_242) ?_
    refine snd_cons (snd_iload X dL_holds_244) ?_
    refine snd_cons (snd_sipush X dL_holds_246 (by decide)) ?_
    refine snd_cons (snd_isub X dL_holds_249) ?_
    refine snd_cons (snd_imul X dL_holds_250) ?_
    refine snd_cons (snd_icmp_ne X dL_holds_251 (by decide)) ?_
    refine snd_cons (snd_aload_n X dL_holds_254 rfl) ?_
    refine snd_cons (snd_iload_n X dL_holds_255 rfl) ?_
    refine snd_cons (snd_iload X dL_holds_256) ?_
    refine snd_cons (snd_callV X Fk7 (oq_bend g B s ss T n f l D ca) rfl rfl w_391 w_392 w_393 w_1 w_394 (by decide) (by decide) dL_holds_258) ?_
    refine snd_cons (snd_aload_n X dL_holds_261 rfl) ?_
    refine snd_cons (snd_iload_n X dL_holds_262 rfl) ?_
    refine snd_cons (snd_iconst X dL_holds_263 (by decide)) ?_
    refine snd_cons (snd_callV X Fk7 (oq_stripOf g B s ss T n f l D ca) rfl rfl w_323 w_324 w_325 w_1 w_326 (by decide) (by decide) dL_holds_264) ?_
    refine snd_cons (snd_icmp_ne X dL_holds_267 (by decide)) ?_
    refine snd_cons (snd_aload_n X dL_holds_270 rfl) ?_
    refine snd_cons (snd_iload_n X dL_holds_271 rfl) ?_
    refine snd_cons (snd_iconst X dL_holds_272 (by decide)) ?_
    refine snd_cons (snd_callV X Fk7 (oq_stripOf g B s ss T n f l D ca) rfl rfl w_323 w_324 w_325 w_1 w_326 (by decide) (by decide) dL_holds_273) ?_
    exact snd_nil
  refine snd_split (352) ?_ ?_
  · refine snd_cons (snd_aload_n X dL_holds_276 rfl) ?_
    refine snd_cons (snd_iload_n X dL_holds_277 rfl) ?_
    refine snd_cons (snd_iconst X dL_holds_278 (by decide)) ?_
    refine snd_cons (snd_callV X Fk7 (oq_stripOf g B s ss T n f l D ca) rfl rfl w_323 w_324 w_325 w_1 w_326 (by decide) (by decide) dL_holds_279) ?_
    refine snd_cons (snd_icmp_ge X dL_holds_282 (by decide)) ?_
    refine snd_cons (snd_aload_n X dL_holds_285 rfl) ?_
    refine snd_cons (snd_iload_n X dL_holds_286 rfl) ?_
    refine snd_cons (snd_bipush X dL_holds_287 (by decide)) ?_
    refine snd_cons (snd_callV X Fk7 (oq_stripOf g B s ss T n f l D ca) rfl rfl w_323 w_324 w_325 w_1 w_326 (by decide) (by decide) dL_holds_289) ?_
    refine snd_cons (snd_iconst X dL_holds_292 (by decide)) ?_
    refine snd_cons (snd_icmp_gt X dL_holds_293 (by decide)) ?_
    refine snd_cons (snd_aload_n X dL_holds_296 rfl) ?_
    refine snd_cons (snd_iload_n X dL_holds_297 rfl) ?_
    refine snd_cons (snd_bipush X dL_holds_298 (by decide)) ?_
    refine snd_cons (snd_callV X Fk7 (oq_stripOf g B s ss T n f l D ca) rfl rfl w_323 w_324 w_325 w_1 w_326 (by decide) (by decide) dL_holds_300) ?_
    refine snd_cons (snd_iconst X dL_holds_303 (by decide)) ?_
    refine snd_cons (snd_icmp_ne X dL_holds_304 (by decide)) ?_
    refine snd_cons (snd_iconst X dL_holds_307 (by decide)) ?_
    refine snd_cons (snd_goto X dL_holds_308 (by decide)) ?_
    refine snd_cons (snd_iconst X dL_holds_311 (by decide)) ?_
    refine snd_cons (snd_aload_n X dL_holds_312 rfl) ?_
    refine snd_cons (snd_iload_n X dL_holds_313 rfl) ?_
    refine snd_cons (snd_bipush X dL_holds_314 (by decide)) ?_
    refine snd_cons (snd_callV X Fk7 (oq_stripOf g B s ss T n f l D ca) rfl rfl w_323 w_324 w_325 w_1 w_326 (by decide) (by decide) dL_holds_316) ?_
    refine snd_cons (snd_aload_n X dL_holds_319 rfl) ?_
    refine snd_cons (snd_iload_n X dL_holds_320 rfl) ?_
    refine snd_cons (snd_bipush X dL_holds_321 (by decide)) ?_
    refine snd_cons (snd_callV X Fk7 (oq_stripOf g B s ss T n f l D ca) rfl rfl w_323 w_324 w_325 w_1 w_326 (by decide) (by decide) dL_holds_323) ?_
    refine snd_cons (snd_icmp_ne X dL_holds_326 (by decide)) ?_
    refine snd_cons (snd_iconst X dL_holds_329 (by decide)) ?_
    refine snd_cons (snd_goto X dL_holds_330 (by decide)) ?_
    refine snd_cons (snd_iconst X dL_holds_333 (by decide)) ?_
    refine snd_cons (snd_icmp_ne X dL_holds_334 (by decide)) ?_
    refine snd_cons (snd_iconst X dL_holds_337 (by decide)) ?_
    refine snd_cons (snd_goto X dL_holds_338 (by decide)) ?_
    refine snd_cons (snd_iconst X dL_holds_341 (by decide)) ?_
    refine snd_cons (snd_istore X dL_holds_342 (by decide)) ?_
    refine snd_cons (snd_iload X dL_holds_344) ?_
    refine snd_cons (snd_sipush X dL_holds_346 (by decide)) ?_
    refine snd_cons (snd_icmp_lt X dL_holds_349 (by decide)) ?_
    exact snd_nil
  refine snd_split (431) ?_ ?_
  · refine snd_cons (snd_iload X dL_holds_352) ?_
    refine snd_cons (snd_sipush X dL_holds_354 (by decide)) ?_
    refine snd_cons (snd_icmp_gt X dL_holds_357 (by decide)) ?_
    refine snd_cons (snd_aload_n X dL_holds_360 rfl) ?_
    refine snd_cons (snd_iconst X dL_holds_361 (by decide)) ?_
    refine snd_cons (snd_callV X Fk7 (oq_count g B s ss T n f l D ca) rfl rfl w_269 w_270 w_271 w_1 w_272 (by decide) (by decide) dL_holds_362) ?_
    refine snd_cons (snd_if_ne X dL_holds_365 (by decide)) ?_
    refine snd_cons (snd_aload_n X dL_holds_368 rfl) ?_
    refine snd_cons (snd_iload_n X dL_holds_369 rfl) ?_
    refine snd_cons (snd_iconst X dL_holds_370 (by decide)) ?_
    refine snd_cons (snd_callV X Fk7 (oq_roomOf g B s ss T n f l D ca) rfl rfl w_357 w_358 w_359 w_1 w_360 (by decide) (by decide) dL_holds_371) ?_
    refine snd_cons (snd_ldc X w_390 dL_holds_374) ?_
    refine snd_cons (snd_icmp_ne X dL_holds_376 (by decide)) ?_
    refine snd_cons (snd_goto X dL_holds_379 (by decide)) ?_
    refine snd_cons (snd_aload_n X dL_holds_382 rfl) ?_
    refine snd_cons (snd_iload_n X dL_holds_383 rfl) ?_
    refine snd_cons (snd_bipush X dL_holds_384 (by decide)) ?_
    refine snd_cons (snd_callV X Fk7 (oq_roomOf g B s ss T n f l D ca) rfl rfl w_357 w_358 w_359 w_1 w_360 (by decide) (by decide) dL_holds_386) ?_
    refine snd_cons (snd_aload_n X dL_holds_389 rfl) ?_
    refine snd_cons (snd_iload_n X dL_holds_390 rfl) ?_
    refine snd_cons (snd_iconst X dL_holds_391 (by decide)) ?_
    refine snd_cons (snd_callV X Fk7 (oq_roomOf g B s ss T n f l D ca) rfl rfl w_357 w_358 w_359 w_1 w_360 (by decide) (by decide) dL_holds_392) ?_
    refine snd_cons (snd_icmp_gt X dL_holds_395 (by decide)) ?_
    refine snd_cons (snd_aload_n X dL_holds_398 rfl) ?_
    refine snd_cons (snd_iload_n X dL_holds_399 rfl) ?_
    refine snd_cons (snd_iconst X dL_holds_400 (by decide)) ?_
    refine snd_cons (snd_callV X Fk7 (oq_roomOf g B s ss T n f l D ca) rfl rfl w_357 w_358 w_359 w_1 w_360 (by decide) (by decide) dL_holds_401) ?_
    refine snd_cons (snd_aload_n X dL_holds_404 rfl) ?_
    refine snd_cons (snd_iconst X dL_holds_405 (by decide)) ?_
    refine snd_cons (snd_callV X Fk7 (oq_count g B s ss T n f l D ca) rfl rfl w_269 w_270 w_271 w_1 w_272 (by decide) (by decide) dL_holds_406) ?_
    refine snd_cons (snd_icmp_gt X dL_holds_409 (by decide)) ?_
    refine snd_cons (snd_iconst X dL_holds_412 (by decide)) ?_
    refine snd_cons (snd_goto X dL_holds_413 (by decide)) ?_
    refine snd_cons (snd_iconst X dL_holds_416 (by decide)) ?_
    refine snd_cons (snd_istore X dL_holds_417 (by decide)) ?_
    refine snd_cons (snd_iload X dL_holds_419) ?_
    refine snd_cons (snd_if_eq X dL_holds_421 (by decide)) ?_
    refine snd_cons (snd_iload X dL_holds_424) ?_
    refine snd_cons (snd_if_eq X dL_holds_426 (by decide)) ?_
    refine snd_cons (snd_iload X dL_holds_429) ?_
    exact snd_nil
  refine snd_cons (snd_if_ne X dL_holds_431 (by decide)) ?_
  refine snd_cons (snd_iconst X dL_holds_434 (by decide)) ?_
  refine snd_cons (snd_zret X dL_holds_435) ?_
  refine snd_cons (snd_iinc X dL_holds_436 (by decide) (by decide)) ?_
  refine snd_cons (snd_goto X dL_holds_439 (by decide)) ?_
  refine snd_cons (snd_iload_n X dL_holds_442 rfl) ?_
  refine snd_cons (snd_aload_n X dL_holds_443 rfl) ?_
  refine snd_cons (snd_iconst X dL_holds_444 (by decide)) ?_
  refine snd_cons (snd_callV X Fk7 (oq_count g B s ss T n f l D ca) rfl rfl w_269 w_270 w_271 w_1 w_272 (by decide) (by decide) dL_holds_445) ?_
  refine snd_cons (snd_icmp_ne X dL_holds_448 (by decide)) ?_
  refine snd_cons (snd_aload_n X dL_holds_451 rfl) ?_
  refine snd_cons (snd_iconst X dL_holds_452 (by decide)) ?_
  refine snd_cons (snd_callV X Fk7 (ok_X7_loop l D ca) rfl rfl w_398 w_399 w_400 w_1 w_401 (by decide) (by decide) dL_holds_453) ?_
  refine snd_cons (snd_ldc X w_390 dL_holds_456) ?_
  refine snd_cons (snd_icmp_ne X dL_holds_458 (by decide)) ?_
  refine snd_cons (snd_iconst X dL_holds_461 (by decide)) ?_
  refine snd_cons (snd_goto X dL_holds_462 (by decide)) ?_
  refine snd_cons (snd_iconst X dL_holds_465 (by decide)) ?_
  refine snd_cons (snd_aload_n X dL_holds_466 rfl) ?_
  refine snd_cons (snd_iconst X dL_holds_467 (by decide)) ?_
  refine snd_cons (snd_callV X Fk7 (ok_X7_loop l D ca) rfl rfl w_398 w_399 w_400 w_1 w_401 (by decide) (by decide) dL_holds_468) ?_
  refine snd_cons (snd_ldc X w_390 dL_holds_471) ?_
  refine snd_cons (snd_icmp_ne X dL_holds_473 (by decide)) ?_
  refine snd_cons (snd_iconst X dL_holds_476 (by decide)) ?_
  refine snd_cons (snd_goto X dL_holds_477 (by decide)) ?_
  refine snd_cons (snd_iconst X dL_holds_480 (by decide)) ?_
  refine snd_cons (snd_icmp_ne X dL_holds_481 (by decide)) ?_
  refine snd_cons (snd_iconst X dL_holds_484 (by decide)) ?_
  refine snd_cons (snd_goto X dL_holds_485 (by decide)) ?_
  refine snd_cons (snd_iconst X dL_holds_488 (by decide)) ?_
  refine snd_cons (snd_zret X dL_holds_489) ?_
  exact snd_nil
theorem k_L_holds_0 {g : Nat → Nat} {B : Nat} {s : Nat → Int32} {ss : Nat} {T : Nat → Int32} {n : Nat} {f : Nat → Int32} (ca : Nat → ClassId) : k_L_holds g B s ss T n f ca 0 = i_push (.int 0) 1 := rfl
theorem k_L_holds_1 {g : Nat → Nat} {B : Nat} {s : Nat → Int32} {ss : Nat} {T : Nat → Int32} {n : Nat} {f : Nat → Int32} (ca : Nat → ClassId) : k_L_holds g B s ss T n f ca 1 = i_istore 2 2 := rfl
theorem k_L_holds_2 {g : Nat → Nat} {B : Nat} {s : Nat → Int32} {ss : Nat} {T : Nat → Int32} {n : Nat} {f : Nat → Int32} (ca : Nat → ClassId) : k_L_holds g B s ss T n f ca 2 = i_push (.int 0) 3 := rfl
theorem k_L_holds_3 {g : Nat → Nat} {B : Nat} {s : Nat → Int32} {ss : Nat} {T : Nat → Int32} {n : Nat} {f : Nat → Int32} (ca : Nat → ClassId) : k_L_holds g B s ss T n f ca 3 = i_istore 3 4 := rfl
theorem k_L_holds_4 {g : Nat → Nat} {B : Nat} {s : Nat → Int32} {ss : Nat} {T : Nat → Int32} {n : Nat} {f : Nat → Int32} (ca : Nat → ClassId) : k_L_holds g B s ss T n f ca 4 = i_iload 3 5 := rfl
theorem k_L_holds_5 {g : Nat → Nat} {B : Nat} {s : Nat → Int32} {ss : Nat} {T : Nat → Int32} {n : Nat} {f : Nat → Int32} (ca : Nat → ClassId) : k_L_holds g B s ss T n f ca 5 = i_push (.int 3) 6 := rfl
theorem k_L_holds_6 {g : Nat → Nat} {B : Nat} {s : Nat → Int32} {ss : Nat} {T : Nat → Int32} {n : Nat} {f : Nat → Int32} (ca : Nat → ClassId) : k_L_holds g B s ss T n f ca 6 = i_icmp (fun x y => y ≤ x) 442 9 := rfl
theorem k_L_holds_9 {g : Nat → Nat} {B : Nat} {s : Nat → Int32} {ss : Nat} {T : Nat → Int32} {n : Nat} {f : Nat → Int32} (ca : Nat → ClassId) : k_L_holds g B s ss T n f ca 9 = i_push (.int 0) 10 := rfl
theorem k_L_holds_10 {g : Nat → Nat} {B : Nat} {s : Nat → Int32} {ss : Nat} {T : Nat → Int32} {n : Nat} {f : Nat → Int32} (ca : Nat → ClassId) : k_L_holds g B s ss T n f ca 10 = i_istore 4 12 := rfl
theorem k_L_holds_12 {g : Nat → Nat} {B : Nat} {s : Nat → Int32} {ss : Nat} {T : Nat → Int32} {n : Nat} {f : Nat → Int32} (ca : Nat → ClassId) : k_L_holds g B s ss T n f ca 12 = i_push (.int 0) 13 := rfl
theorem k_L_holds_13 {g : Nat → Nat} {B : Nat} {s : Nat → Int32} {ss : Nat} {T : Nat → Int32} {n : Nat} {f : Nat → Int32} (ca : Nat → ClassId) : k_L_holds g B s ss T n f ca 13 = i_istore 5 15 := rfl
theorem k_L_holds_15 {g : Nat → Nat} {B : Nat} {s : Nat → Int32} {ss : Nat} {T : Nat → Int32} {n : Nat} {f : Nat → Int32} (ca : Nat → ClassId) : k_L_holds g B s ss T n f ca 15 = i_aload 0 16 := rfl
theorem k_L_holds_16 {g : Nat → Nat} {B : Nat} {s : Nat → Int32} {ss : Nat} {T : Nat → Int32} {n : Nat} {f : Nat → Int32} (ca : Nat → ClassId) : k_L_holds g B s ss T n f ca 16 = i_iload 3 17 := rfl
theorem k_L_holds_17 {g : Nat → Nat} {B : Nat} {s : Nat → Int32} {ss : Nat} {T : Nat → Int32} {n : Nat} {f : Nat → Int32} (ca : Nat → ClassId) : k_L_holds g B s ss T n f ca 17 = i_push (.int 0) 18 := rfl
theorem k_L_holds_18 {g : Nat → Nat} {B : Nat} {s : Nat → Int32} {ss : Nat} {T : Nat → Int32} {n : Nat} {f : Nat → Int32} (ca : Nat → ClassId) : k_L_holds g B s ss T n f ca 18 = i_callV 7 2 0 0 0 0 (sq_roomOf g B s ss T n f ca) 21 := rfl
theorem k_L_holds_21 {g : Nat → Nat} {B : Nat} {s : Nat → Int32} {ss : Nat} {T : Nat → Int32} {n : Nat} {f : Nat → Int32} (ca : Nat → ClassId) : k_L_holds g B s ss T n f ca 21 = i_istore 6 23 := rfl
theorem k_L_holds_23 {g : Nat → Nat} {B : Nat} {s : Nat → Int32} {ss : Nat} {T : Nat → Int32} {n : Nat} {f : Nat → Int32} (ca : Nat → ClassId) : k_L_holds g B s ss T n f ca 23 = i_push (.int 0) 24 := rfl
theorem k_L_holds_24 {g : Nat → Nat} {B : Nat} {s : Nat → Int32} {ss : Nat} {T : Nat → Int32} {n : Nat} {f : Nat → Int32} (ca : Nat → ClassId) : k_L_holds g B s ss T n f ca 24 = i_istore 7 26 := rfl
theorem k_L_holds_26 {g : Nat → Nat} {B : Nat} {s : Nat → Int32} {ss : Nat} {T : Nat → Int32} {n : Nat} {f : Nat → Int32} (ca : Nat → ClassId) : k_L_holds g B s ss T n f ca 26 = i_iload 7 28 := rfl
theorem k_L_holds_28 {g : Nat → Nat} {B : Nat} {s : Nat → Int32} {ss : Nat} {T : Nat → Int32} {n : Nat} {f : Nat → Int32} (ca : Nat → ClassId) : k_L_holds g B s ss T n f ca 28 = i_aload 0 29 := rfl
theorem k_L_holds_29 {g : Nat → Nat} {B : Nat} {s : Nat → Int32} {ss : Nat} {T : Nat → Int32} {n : Nat} {f : Nat → Int32} (ca : Nat → ClassId) : k_L_holds g B s ss T n f ca 29 = i_iload 3 30 := rfl
theorem k_L_holds_30 {g : Nat → Nat} {B : Nat} {s : Nat → Int32} {ss : Nat} {T : Nat → Int32} {n : Nat} {f : Nat → Int32} (ca : Nat → ClassId) : k_L_holds g B s ss T n f ca 30 = i_push (.int 0) 31 := rfl
theorem k_L_holds_31 {g : Nat → Nat} {B : Nat} {s : Nat → Int32} {ss : Nat} {T : Nat → Int32} {n : Nat} {f : Nat → Int32} (ca : Nat → ClassId) : k_L_holds g B s ss T n f ca 31 = i_callV 7 2 0 0 0 0 (sq_stripOf g B s ss T n f ca) 34 := rfl
theorem k_L_holds_34 {g : Nat → Nat} {B : Nat} {s : Nat → Int32} {ss : Nat} {T : Nat → Int32} {n : Nat} {f : Nat → Int32} (ca : Nat → ClassId) : k_L_holds g B s ss T n f ca 34 = i_icmp (fun x y => y ≤ x) 122 37 := rfl
theorem k_L_holds_37 {g : Nat → Nat} {B : Nat} {s : Nat → Int32} {ss : Nat} {T : Nat → Int32} {n : Nat} {f : Nat → Int32} (ca : Nat → ClassId) : k_L_holds g B s ss T n f ca 37 = i_iload 4 39 := rfl
theorem k_L_holds_39 {g : Nat → Nat} {B : Nat} {s : Nat → Int32} {ss : Nat} {T : Nat → Int32} {n : Nat} {f : Nat → Int32} (ca : Nat → ClassId) : k_L_holds g B s ss T n f ca 39 = i_aload 0 40 := rfl
theorem k_L_holds_40 {g : Nat → Nat} {B : Nat} {s : Nat → Int32} {ss : Nat} {T : Nat → Int32} {n : Nat} {f : Nat → Int32} (ca : Nat → ClassId) : k_L_holds g B s ss T n f ca 40 = i_iload 3 41 := rfl
theorem k_L_holds_41 {g : Nat → Nat} {B : Nat} {s : Nat → Int32} {ss : Nat} {T : Nat → Int32} {n : Nat} {f : Nat → Int32} (ca : Nat → ClassId) : k_L_holds g B s ss T n f ca 41 = i_iload 7 43 := rfl
theorem k_L_holds_43 {g : Nat → Nat} {B : Nat} {s : Nat → Int32} {ss : Nat} {T : Nat → Int32} {n : Nat} {f : Nat → Int32} (ca : Nat → ClassId) : k_L_holds g B s ss T n f ca 43 = i_push (.int 0) 44 := rfl
theorem k_L_holds_44 {g : Nat → Nat} {B : Nat} {s : Nat → Int32} {ss : Nat} {T : Nat → Int32} {n : Nat} {f : Nat → Int32} (ca : Nat → ClassId) : k_L_holds g B s ss T n f ca 44 = i_callV 7 3 0 0 0 0 (sq_partOf g B s ss T n f ca) 47 := rfl
theorem k_L_holds_47 {g : Nat → Nat} {B : Nat} {s : Nat → Int32} {ss : Nat} {T : Nat → Int32} {n : Nat} {f : Nat → Int32} (ca : Nat → ClassId) : k_L_holds g B s ss T n f ca 47 = i_bin (fun x y => x + y) 48 := rfl
theorem k_L_holds_48 {g : Nat → Nat} {B : Nat} {s : Nat → Int32} {ss : Nat} {T : Nat → Int32} {n : Nat} {f : Nat → Int32} (ca : Nat → ClassId) : k_L_holds g B s ss T n f ca 48 = i_istore 4 50 := rfl
theorem k_L_holds_50 {g : Nat → Nat} {B : Nat} {s : Nat → Int32} {ss : Nat} {T : Nat → Int32} {n : Nat} {f : Nat → Int32} (ca : Nat → ClassId) : k_L_holds g B s ss T n f ca 50 = i_iload 5 52 := rfl
theorem k_L_holds_52 {g : Nat → Nat} {B : Nat} {s : Nat → Int32} {ss : Nat} {T : Nat → Int32} {n : Nat} {f : Nat → Int32} (ca : Nat → ClassId) : k_L_holds g B s ss T n f ca 52 = i_aload 0 53 := rfl
theorem k_L_holds_53 {g : Nat → Nat} {B : Nat} {s : Nat → Int32} {ss : Nat} {T : Nat → Int32} {n : Nat} {f : Nat → Int32} (ca : Nat → ClassId) : k_L_holds g B s ss T n f ca 53 = i_iload 3 54 := rfl
theorem k_L_holds_54 {g : Nat → Nat} {B : Nat} {s : Nat → Int32} {ss : Nat} {T : Nat → Int32} {n : Nat} {f : Nat → Int32} (ca : Nat → ClassId) : k_L_holds g B s ss T n f ca 54 = i_iload 7 56 := rfl
theorem k_L_holds_56 {g : Nat → Nat} {B : Nat} {s : Nat → Int32} {ss : Nat} {T : Nat → Int32} {n : Nat} {f : Nat → Int32} (ca : Nat → ClassId) : k_L_holds g B s ss T n f ca 56 = i_push (.int 3) 57 := rfl
theorem k_L_holds_57 {g : Nat → Nat} {B : Nat} {s : Nat → Int32} {ss : Nat} {T : Nat → Int32} {n : Nat} {f : Nat → Int32} (ca : Nat → ClassId) : k_L_holds g B s ss T n f ca 57 = i_callV 7 3 0 0 0 0 (sq_partOf g B s ss T n f ca) 60 := rfl
theorem k_L_holds_60 {g : Nat → Nat} {B : Nat} {s : Nat → Int32} {ss : Nat} {T : Nat → Int32} {n : Nat} {f : Nat → Int32} (ca : Nat → ClassId) : k_L_holds g B s ss T n f ca 60 = i_bin (fun x y => x + y) 61 := rfl
theorem k_L_holds_61 {g : Nat → Nat} {B : Nat} {s : Nat → Int32} {ss : Nat} {T : Nat → Int32} {n : Nat} {f : Nat → Int32} (ca : Nat → ClassId) : k_L_holds g B s ss T n f ca 61 = i_istore 5 63 := rfl
theorem k_L_holds_63 {g : Nat → Nat} {B : Nat} {s : Nat → Int32} {ss : Nat} {T : Nat → Int32} {n : Nat} {f : Nat → Int32} (ca : Nat → ClassId) : k_L_holds g B s ss T n f ca 63 = i_aload 0 64 := rfl
theorem k_L_holds_64 {g : Nat → Nat} {B : Nat} {s : Nat → Int32} {ss : Nat} {T : Nat → Int32} {n : Nat} {f : Nat → Int32} (ca : Nat → ClassId) : k_L_holds g B s ss T n f ca 64 = i_iload 3 65 := rfl
theorem k_L_holds_65 {g : Nat → Nat} {B : Nat} {s : Nat → Int32} {ss : Nat} {T : Nat → Int32} {n : Nat} {f : Nat → Int32} (ca : Nat → ClassId) : k_L_holds g B s ss T n f ca 65 = i_iload 7 67 := rfl
theorem k_L_holds_67 {g : Nat → Nat} {B : Nat} {s : Nat → Int32} {ss : Nat} {T : Nat → Int32} {n : Nat} {f : Nat → Int32} (ca : Nat → ClassId) : k_L_holds g B s ss T n f ca 67 = i_push (.int 3) 68 := rfl
theorem k_L_holds_68 {g : Nat → Nat} {B : Nat} {s : Nat → Int32} {ss : Nat} {T : Nat → Int32} {n : Nat} {f : Nat → Int32} (ca : Nat → ClassId) : k_L_holds g B s ss T n f ca 68 = i_callV 7 3 0 0 0 0 (sq_partOf g B s ss T n f ca) 71 := rfl
theorem k_L_holds_71 {g : Nat → Nat} {B : Nat} {s : Nat → Int32} {ss : Nat} {T : Nat → Int32} {n : Nat} {f : Nat → Int32} (ca : Nat → ClassId) : k_L_holds g B s ss T n f ca 71 = i_aload 0 72 := rfl
theorem k_L_holds_72 {g : Nat → Nat} {B : Nat} {s : Nat → Int32} {ss : Nat} {T : Nat → Int32} {n : Nat} {f : Nat → Int32} (ca : Nat → ClassId) : k_L_holds g B s ss T n f ca 72 = i_iload 3 73 := rfl
theorem k_L_holds_73 {g : Nat → Nat} {B : Nat} {s : Nat → Int32} {ss : Nat} {T : Nat → Int32} {n : Nat} {f : Nat → Int32} (ca : Nat → ClassId) : k_L_holds g B s ss T n f ca 73 = i_iload 7 75 := rfl
theorem k_L_holds_75 {g : Nat → Nat} {B : Nat} {s : Nat → Int32} {ss : Nat} {T : Nat → Int32} {n : Nat} {f : Nat → Int32} (ca : Nat → ClassId) : k_L_holds g B s ss T n f ca 75 = i_push (.int 0) 76 := rfl
theorem k_L_holds_76 {g : Nat → Nat} {B : Nat} {s : Nat → Int32} {ss : Nat} {T : Nat → Int32} {n : Nat} {f : Nat → Int32} (ca : Nat → ClassId) : k_L_holds g B s ss T n f ca 76 = i_callV 7 3 0 0 0 0 (sq_partOf g B s ss T n f ca) 79 := rfl
theorem k_L_holds_79 {g : Nat → Nat} {B : Nat} {s : Nat → Int32} {ss : Nat} {T : Nat → Int32} {n : Nat} {f : Nat → Int32} (ca : Nat → ClassId) : k_L_holds g B s ss T n f ca 79 = i_aload 0 80 := rfl
theorem k_L_holds_80 {g : Nat → Nat} {B : Nat} {s : Nat → Int32} {ss : Nat} {T : Nat → Int32} {n : Nat} {f : Nat → Int32} (ca : Nat → ClassId) : k_L_holds g B s ss T n f ca 80 = i_push (.int 10) 82 := rfl
theorem k_L_holds_82 {g : Nat → Nat} {B : Nat} {s : Nat → Int32} {ss : Nat} {T : Nat → Int32} {n : Nat} {f : Nat → Int32} (ca : Nat → ClassId) : k_L_holds g B s ss T n f ca 82 = i_aload 0 83 := rfl
theorem k_L_holds_83 {g : Nat → Nat} {B : Nat} {s : Nat → Int32} {ss : Nat} {T : Nat → Int32} {n : Nat} {f : Nat → Int32} (ca : Nat → ClassId) : k_L_holds g B s ss T n f ca 83 = i_iload 3 84 := rfl
theorem k_L_holds_84 {g : Nat → Nat} {B : Nat} {s : Nat → Int32} {ss : Nat} {T : Nat → Int32} {n : Nat} {f : Nat → Int32} (ca : Nat → ClassId) : k_L_holds g B s ss T n f ca 84 = i_iload 7 86 := rfl
theorem k_L_holds_86 {g : Nat → Nat} {B : Nat} {s : Nat → Int32} {ss : Nat} {T : Nat → Int32} {n : Nat} {f : Nat → Int32} (ca : Nat → ClassId) : k_L_holds g B s ss T n f ca 86 = i_push (.int 1) 87 := rfl
theorem k_L_holds_87 {g : Nat → Nat} {B : Nat} {s : Nat → Int32} {ss : Nat} {T : Nat → Int32} {n : Nat} {f : Nat → Int32} (ca : Nat → ClassId) : k_L_holds g B s ss T n f ca 87 = i_callV 7 3 0 0 0 0 (sq_partOf g B s ss T n f ca) 90 := rfl
theorem k_L_holds_90 {g : Nat → Nat} {B : Nat} {s : Nat → Int32} {ss : Nat} {T : Nat → Int32} {n : Nat} {f : Nat → Int32} (ca : Nat → ClassId) : k_L_holds g B s ss T n f ca 90 = i_bin (fun x y => x + y) 91 := rfl
theorem k_L_holds_91 {g : Nat → Nat} {B : Nat} {s : Nat → Int32} {ss : Nat} {T : Nat → Int32} {n : Nat} {f : Nat → Int32} (ca : Nat → ClassId) : k_L_holds g B s ss T n f ca 91 = i_callV 7 1 0 0 0 0 (sq_count g B s ss T n f ca) 94 := rfl
theorem k_L_holds_94 {g : Nat → Nat} {B : Nat} {s : Nat → Int32} {ss : Nat} {T : Nat → Int32} {n : Nat} {f : Nat → Int32} (ca : Nat → ClassId) : k_L_holds g B s ss T n f ca 94 = i_aload 0 95 := rfl
theorem k_L_holds_95 {g : Nat → Nat} {B : Nat} {s : Nat → Int32} {ss : Nat} {T : Nat → Int32} {n : Nat} {f : Nat → Int32} (ca : Nat → ClassId) : k_L_holds g B s ss T n f ca 95 = i_push (.int 10) 97 := rfl
theorem k_L_holds_97 {g : Nat → Nat} {B : Nat} {s : Nat → Int32} {ss : Nat} {T : Nat → Int32} {n : Nat} {f : Nat → Int32} (ca : Nat → ClassId) : k_L_holds g B s ss T n f ca 97 = i_aload 0 98 := rfl
theorem k_L_holds_98 {g : Nat → Nat} {B : Nat} {s : Nat → Int32} {ss : Nat} {T : Nat → Int32} {n : Nat} {f : Nat → Int32} (ca : Nat → ClassId) : k_L_holds g B s ss T n f ca 98 = i_iload 3 99 := rfl
theorem k_L_holds_99 {g : Nat → Nat} {B : Nat} {s : Nat → Int32} {ss : Nat} {T : Nat → Int32} {n : Nat} {f : Nat → Int32} (ca : Nat → ClassId) : k_L_holds g B s ss T n f ca 99 = i_iload 7 101 := rfl
theorem k_L_holds_101 {g : Nat → Nat} {B : Nat} {s : Nat → Int32} {ss : Nat} {T : Nat → Int32} {n : Nat} {f : Nat → Int32} (ca : Nat → ClassId) : k_L_holds g B s ss T n f ca 101 = i_push (.int 2) 102 := rfl
theorem k_L_holds_102 {g : Nat → Nat} {B : Nat} {s : Nat → Int32} {ss : Nat} {T : Nat → Int32} {n : Nat} {f : Nat → Int32} (ca : Nat → ClassId) : k_L_holds g B s ss T n f ca 102 = i_callV 7 3 0 0 0 0 (sq_partOf g B s ss T n f ca) 105 := rfl
theorem k_L_holds_105 {g : Nat → Nat} {B : Nat} {s : Nat → Int32} {ss : Nat} {T : Nat → Int32} {n : Nat} {f : Nat → Int32} (ca : Nat → ClassId) : k_L_holds g B s ss T n f ca 105 = i_bin (fun x y => x + y) 106 := rfl
theorem k_L_holds_106 {g : Nat → Nat} {B : Nat} {s : Nat → Int32} {ss : Nat} {T : Nat → Int32} {n : Nat} {f : Nat → Int32} (ca : Nat → ClassId) : k_L_holds g B s ss T n f ca 106 = i_callV 7 1 0 0 0 0 (sq_count g B s ss T n f ca) 109 := rfl
theorem k_L_holds_109 {g : Nat → Nat} {B : Nat} {s : Nat → Int32} {ss : Nat} {T : Nat → Int32} {n : Nat} {f : Nat → Int32} (ca : Nat → ClassId) : k_L_holds g B s ss T n f ca 109 = i_bin (fun x y => x - y) 110 := rfl
theorem k_L_holds_110 {g : Nat → Nat} {B : Nat} {s : Nat → Int32} {ss : Nat} {T : Nat → Int32} {n : Nat} {f : Nat → Int32} (ca : Nat → ClassId) : k_L_holds g B s ss T n f ca 110 = i_bin (fun x y => x * y) 111 := rfl
theorem k_L_holds_111 {g : Nat → Nat} {B : Nat} {s : Nat → Int32} {ss : Nat} {T : Nat → Int32} {n : Nat} {f : Nat → Int32} (ca : Nat → ClassId) : k_L_holds g B s ss T n f ca 111 = i_icmp (fun x y => x = y) 116 114 := rfl
theorem k_L_holds_114 {g : Nat → Nat} {B : Nat} {s : Nat → Int32} {ss : Nat} {T : Nat → Int32} {n : Nat} {f : Nat → Int32} (ca : Nat → ClassId) : k_L_holds g B s ss T n f ca 114 = i_push (.int 0) 115 := rfl
theorem k_L_holds_115 {g : Nat → Nat} {B : Nat} {s : Nat → Int32} {ss : Nat} {T : Nat → Int32} {n : Nat} {f : Nat → Int32} (ca : Nat → ClassId) : k_L_holds g B s ss T n f ca 115 = i_zret := rfl
theorem k_L_holds_116 {g : Nat → Nat} {B : Nat} {s : Nat → Int32} {ss : Nat} {T : Nat → Int32} {n : Nat} {f : Nat → Int32} (ca : Nat → ClassId) : k_L_holds g B s ss T n f ca 116 = i_iinc 7 1 119 := rfl
theorem k_L_holds_119 {g : Nat → Nat} {B : Nat} {s : Nat → Int32} {ss : Nat} {T : Nat → Int32} {n : Nat} {f : Nat → Int32} (ca : Nat → ClassId) : k_L_holds g B s ss T n f ca 119 = i_goto 26 := rfl
theorem k_L_holds_122 {g : Nat → Nat} {B : Nat} {s : Nat → Int32} {ss : Nat} {T : Nat → Int32} {n : Nat} {f : Nat → Int32} (ca : Nat → ClassId) : k_L_holds g B s ss T n f ca 122 = i_iload 2 123 := rfl
theorem k_L_holds_123 {g : Nat → Nat} {B : Nat} {s : Nat → Int32} {ss : Nat} {T : Nat → Int32} {n : Nat} {f : Nat → Int32} (ca : Nat → ClassId) : k_L_holds g B s ss T n f ca 123 = i_aload 0 124 := rfl
theorem k_L_holds_124 {g : Nat → Nat} {B : Nat} {s : Nat → Int32} {ss : Nat} {T : Nat → Int32} {n : Nat} {f : Nat → Int32} (ca : Nat → ClassId) : k_L_holds g B s ss T n f ca 124 = i_iload 3 125 := rfl
theorem k_L_holds_125 {g : Nat → Nat} {B : Nat} {s : Nat → Int32} {ss : Nat} {T : Nat → Int32} {n : Nat} {f : Nat → Int32} (ca : Nat → ClassId) : k_L_holds g B s ss T n f ca 125 = i_push (.int 9) 127 := rfl
theorem k_L_holds_127 {g : Nat → Nat} {B : Nat} {s : Nat → Int32} {ss : Nat} {T : Nat → Int32} {n : Nat} {f : Nat → Int32} (ca : Nat → ClassId) : k_L_holds g B s ss T n f ca 127 = i_callV 7 2 0 0 0 0 (sq_stripOf g B s ss T n f ca) 130 := rfl
theorem k_L_holds_130 {g : Nat → Nat} {B : Nat} {s : Nat → Int32} {ss : Nat} {T : Nat → Int32} {n : Nat} {f : Nat → Int32} (ca : Nat → ClassId) : k_L_holds g B s ss T n f ca 130 = i_bin (fun x y => x + y) 131 := rfl
theorem k_L_holds_131 {g : Nat → Nat} {B : Nat} {s : Nat → Int32} {ss : Nat} {T : Nat → Int32} {n : Nat} {f : Nat → Int32} (ca : Nat → ClassId) : k_L_holds g B s ss T n f ca 131 = i_istore 2 132 := rfl
theorem k_L_holds_132 {g : Nat → Nat} {B : Nat} {s : Nat → Int32} {ss : Nat} {T : Nat → Int32} {n : Nat} {f : Nat → Int32} (ca : Nat → ClassId) : k_L_holds g B s ss T n f ca 132 = i_iload 1 133 := rfl
theorem k_L_holds_133 {g : Nat → Nat} {B : Nat} {s : Nat → Int32} {ss : Nat} {T : Nat → Int32} {n : Nat} {f : Nat → Int32} (ca : Nat → ClassId) : k_L_holds g B s ss T n f ca 133 = i_iload 3 134 := rfl
theorem k_L_holds_134 {g : Nat → Nat} {B : Nat} {s : Nat → Int32} {ss : Nat} {T : Nat → Int32} {n : Nat} {f : Nat → Int32} (ca : Nat → ClassId) : k_L_holds g B s ss T n f ca 134 = i_bin (fun x y => x >>> (y &&& 31)) 135 := rfl
theorem k_L_holds_135 {g : Nat → Nat} {B : Nat} {s : Nat → Int32} {ss : Nat} {T : Nat → Int32} {n : Nat} {f : Nat → Int32} (ca : Nat → ClassId) : k_L_holds g B s ss T n f ca 135 = i_push (.int 2) 136 := rfl
theorem k_L_holds_136 {g : Nat → Nat} {B : Nat} {s : Nat → Int32} {ss : Nat} {T : Nat → Int32} {n : Nat} {f : Nat → Int32} (ca : Nat → ClassId) : k_L_holds g B s ss T n f ca 136 = i_callS 2 0 0 0 0 (sp_L_low ca) 139 := rfl
theorem k_L_holds_139 {g : Nat → Nat} {B : Nat} {s : Nat → Int32} {ss : Nat} {T : Nat → Int32} {n : Nat} {f : Nat → Int32} (ca : Nat → ClassId) : k_L_holds g B s ss T n f ca 139 = i_istore 7 141 := rfl
theorem k_L_holds_141 {g : Nat → Nat} {B : Nat} {s : Nat → Int32} {ss : Nat} {T : Nat → Int32} {n : Nat} {f : Nat → Int32} (ca : Nat → ClassId) : k_L_holds g B s ss T n f ca 141 = i_aload 0 142 := rfl
theorem k_L_holds_142 {g : Nat → Nat} {B : Nat} {s : Nat → Int32} {ss : Nat} {T : Nat → Int32} {n : Nat} {f : Nat → Int32} (ca : Nat → ClassId) : k_L_holds g B s ss T n f ca 142 = i_iload 3 143 := rfl
theorem k_L_holds_143 {g : Nat → Nat} {B : Nat} {s : Nat → Int32} {ss : Nat} {T : Nat → Int32} {n : Nat} {f : Nat → Int32} (ca : Nat → ClassId) : k_L_holds g B s ss T n f ca 143 = i_iload 7 145 := rfl
theorem k_L_holds_145 {g : Nat → Nat} {B : Nat} {s : Nat → Int32} {ss : Nat} {T : Nat → Int32} {n : Nat} {f : Nat → Int32} (ca : Nat → ClassId) : k_L_holds g B s ss T n f ca 145 = i_callV 7 2 0 0 0 0 (sq_tripsAt g B s ss T n f ca) 148 := rfl
theorem k_L_holds_148 {g : Nat → Nat} {B : Nat} {s : Nat → Int32} {ss : Nat} {T : Nat → Int32} {n : Nat} {f : Nat → Int32} (ca : Nat → ClassId) : k_L_holds g B s ss T n f ca 148 = i_istore 8 150 := rfl
theorem k_L_holds_150 {g : Nat → Nat} {B : Nat} {s : Nat → Int32} {ss : Nat} {T : Nat → Int32} {n : Nat} {f : Nat → Int32} (ca : Nat → ClassId) : k_L_holds g B s ss T n f ca 150 = i_iload 8 152 := rfl
theorem k_L_holds_152 {g : Nat → Nat} {B : Nat} {s : Nat → Int32} {ss : Nat} {T : Nat → Int32} {n : Nat} {f : Nat → Int32} (ca : Nat → ClassId) : k_L_holds g B s ss T n f ca 152 = i_push (.int (-10000004)) 154 := rfl
theorem k_L_holds_154 {g : Nat → Nat} {B : Nat} {s : Nat → Int32} {ss : Nat} {T : Nat → Int32} {n : Nat} {f : Nat → Int32} (ca : Nat → ClassId) : k_L_holds g B s ss T n f ca 154 = i_icmp (fun x y => ¬ x = y) 161 157 := rfl
theorem k_L_holds_157 {g : Nat → Nat} {B : Nat} {s : Nat → Int32} {ss : Nat} {T : Nat → Int32} {n : Nat} {f : Nat → Int32} (ca : Nat → ClassId) : k_L_holds g B s ss T n f ca 157 = i_push (.int 0) 158 := rfl
theorem k_L_holds_158 {g : Nat → Nat} {B : Nat} {s : Nat → Int32} {ss : Nat} {T : Nat → Int32} {n : Nat} {f : Nat → Int32} (ca : Nat → ClassId) : k_L_holds g B s ss T n f ca 158 = i_goto 168 := rfl
theorem k_L_holds_161 {g : Nat → Nat} {B : Nat} {s : Nat → Int32} {ss : Nat} {T : Nat → Int32} {n : Nat} {f : Nat → Int32} (ca : Nat → ClassId) : k_L_holds g B s ss T n f ca 161 = i_aload 0 162 := rfl
theorem k_L_holds_162 {g : Nat → Nat} {B : Nat} {s : Nat → Int32} {ss : Nat} {T : Nat → Int32} {n : Nat} {f : Nat → Int32} (ca : Nat → ClassId) : k_L_holds g B s ss T n f ca 162 = i_iload 3 163 := rfl
theorem k_L_holds_163 {g : Nat → Nat} {B : Nat} {s : Nat → Int32} {ss : Nat} {T : Nat → Int32} {n : Nat} {f : Nat → Int32} (ca : Nat → ClassId) : k_L_holds g B s ss T n f ca 163 = i_iload 8 165 := rfl
theorem k_L_holds_165 {g : Nat → Nat} {B : Nat} {s : Nat → Int32} {ss : Nat} {T : Nat → Int32} {n : Nat} {f : Nat → Int32} (ca : Nat → ClassId) : k_L_holds g B s ss T n f ca 165 = i_callV 7 2 0 0 0 0 (sq_bend g B s ss T n f ca) 168 := rfl
theorem k_L_holds_168 {g : Nat → Nat} {B : Nat} {s : Nat → Int32} {ss : Nat} {T : Nat → Int32} {n : Nat} {f : Nat → Int32} (ca : Nat → ClassId) : k_L_holds g B s ss T n f ca 168 = i_istore 9 170 := rfl
theorem k_L_holds_170 {g : Nat → Nat} {B : Nat} {s : Nat → Int32} {ss : Nat} {T : Nat → Int32} {n : Nat} {f : Nat → Int32} (ca : Nat → ClassId) : k_L_holds g B s ss T n f ca 170 = i_iload 8 172 := rfl
theorem k_L_holds_172 {g : Nat → Nat} {B : Nat} {s : Nat → Int32} {ss : Nat} {T : Nat → Int32} {n : Nat} {f : Nat → Int32} (ca : Nat → ClassId) : k_L_holds g B s ss T n f ca 172 = i_push (.int (-10000004)) 174 := rfl
theorem k_L_holds_174 {g : Nat → Nat} {B : Nat} {s : Nat → Int32} {ss : Nat} {T : Nat → Int32} {n : Nat} {f : Nat → Int32} (ca : Nat → ClassId) : k_L_holds g B s ss T n f ca 174 = i_icmp (fun x y => x = y) 207 177 := rfl
theorem k_L_holds_177 {g : Nat → Nat} {B : Nat} {s : Nat → Int32} {ss : Nat} {T : Nat → Int32} {n : Nat} {f : Nat → Int32} (ca : Nat → ClassId) : k_L_holds g B s ss T n f ca 177 = i_iload 7 179 := rfl
theorem k_L_holds_179 {g : Nat → Nat} {B : Nat} {s : Nat → Int32} {ss : Nat} {T : Nat → Int32} {n : Nat} {f : Nat → Int32} (ca : Nat → ClassId) : k_L_holds g B s ss T n f ca 179 = i_if (fun x => ¬ x = 0) 196 182 := rfl
theorem k_L_holds_182 {g : Nat → Nat} {B : Nat} {s : Nat → Int32} {ss : Nat} {T : Nat → Int32} {n : Nat} {f : Nat → Int32} (ca : Nat → ClassId) : k_L_holds g B s ss T n f ca 182 = i_iload 9 184 := rfl
theorem k_L_holds_184 {g : Nat → Nat} {B : Nat} {s : Nat → Int32} {ss : Nat} {T : Nat → Int32} {n : Nat} {f : Nat → Int32} (ca : Nat → ClassId) : k_L_holds g B s ss T n f ca 184 = i_aload 0 185 := rfl
theorem k_L_holds_185 {g : Nat → Nat} {B : Nat} {s : Nat → Int32} {ss : Nat} {T : Nat → Int32} {n : Nat} {f : Nat → Int32} (ca : Nat → ClassId) : k_L_holds g B s ss T n f ca 185 = i_iload 3 186 := rfl
theorem k_L_holds_186 {g : Nat → Nat} {B : Nat} {s : Nat → Int32} {ss : Nat} {T : Nat → Int32} {n : Nat} {f : Nat → Int32} (ca : Nat → ClassId) : k_L_holds g B s ss T n f ca 186 = i_push (.int 5) 187 := rfl
theorem k_L_holds_187 {g : Nat → Nat} {B : Nat} {s : Nat → Int32} {ss : Nat} {T : Nat → Int32} {n : Nat} {f : Nat → Int32} (ca : Nat → ClassId) : k_L_holds g B s ss T n f ca 187 = i_callV 7 2 0 0 0 0 (sq_stripOf g B s ss T n f ca) 190 := rfl
theorem k_L_holds_190 {g : Nat → Nat} {B : Nat} {s : Nat → Int32} {ss : Nat} {T : Nat → Int32} {n : Nat} {f : Nat → Int32} (ca : Nat → ClassId) : k_L_holds g B s ss T n f ca 190 = i_icmp (fun x y => x < y) 211 193 := rfl
theorem k_L_holds_193 {g : Nat → Nat} {B : Nat} {s : Nat → Int32} {ss : Nat} {T : Nat → Int32} {n : Nat} {f : Nat → Int32} (ca : Nat → ClassId) : k_L_holds g B s ss T n f ca 193 = i_goto 207 := rfl
theorem k_L_holds_196 {g : Nat → Nat} {B : Nat} {s : Nat → Int32} {ss : Nat} {T : Nat → Int32} {n : Nat} {f : Nat → Int32} (ca : Nat → ClassId) : k_L_holds g B s ss T n f ca 196 = i_iload 9 198 := rfl
theorem k_L_holds_198 {g : Nat → Nat} {B : Nat} {s : Nat → Int32} {ss : Nat} {T : Nat → Int32} {n : Nat} {f : Nat → Int32} (ca : Nat → ClassId) : k_L_holds g B s ss T n f ca 198 = i_aload 0 199 := rfl
theorem k_L_holds_199 {g : Nat → Nat} {B : Nat} {s : Nat → Int32} {ss : Nat} {T : Nat → Int32} {n : Nat} {f : Nat → Int32} (ca : Nat → ClassId) : k_L_holds g B s ss T n f ca 199 = i_iload 3 200 := rfl
theorem k_L_holds_200 {g : Nat → Nat} {B : Nat} {s : Nat → Int32} {ss : Nat} {T : Nat → Int32} {n : Nat} {f : Nat → Int32} (ca : Nat → ClassId) : k_L_holds g B s ss T n f ca 200 = i_push (.int 4) 201 := rfl
theorem k_L_holds_201 {g : Nat → Nat} {B : Nat} {s : Nat → Int32} {ss : Nat} {T : Nat → Int32} {n : Nat} {f : Nat → Int32} (ca : Nat → ClassId) : k_L_holds g B s ss T n f ca 201 = i_callV 7 2 0 0 0 0 (sq_stripOf g B s ss T n f ca) 204 := rfl
theorem k_L_holds_204 {g : Nat → Nat} {B : Nat} {s : Nat → Int32} {ss : Nat} {T : Nat → Int32} {n : Nat} {f : Nat → Int32} (ca : Nat → ClassId) : k_L_holds g B s ss T n f ca 204 = i_icmp (fun x y => y < x) 211 207 := rfl
theorem k_L_holds_207 {g : Nat → Nat} {B : Nat} {s : Nat → Int32} {ss : Nat} {T : Nat → Int32} {n : Nat} {f : Nat → Int32} (ca : Nat → ClassId) : k_L_holds g B s ss T n f ca 207 = i_push (.int 1) 208 := rfl
theorem k_L_holds_208 {g : Nat → Nat} {B : Nat} {s : Nat → Int32} {ss : Nat} {T : Nat → Int32} {n : Nat} {f : Nat → Int32} (ca : Nat → ClassId) : k_L_holds g B s ss T n f ca 208 = i_goto 212 := rfl
theorem k_L_holds_211 {g : Nat → Nat} {B : Nat} {s : Nat → Int32} {ss : Nat} {T : Nat → Int32} {n : Nat} {f : Nat → Int32} (ca : Nat → ClassId) : k_L_holds g B s ss T n f ca 211 = i_push (.int 0) 212 := rfl
theorem k_L_holds_212 {g : Nat → Nat} {B : Nat} {s : Nat → Int32} {ss : Nat} {T : Nat → Int32} {n : Nat} {f : Nat → Int32} (ca : Nat → ClassId) : k_L_holds g B s ss T n f ca 212 = i_istore 10 214 := rfl
theorem k_L_holds_214 {g : Nat → Nat} {B : Nat} {s : Nat → Int32} {ss : Nat} {T : Nat → Int32} {n : Nat} {f : Nat → Int32} (ca : Nat → ClassId) : k_L_holds g B s ss T n f ca 214 = i_aload 0 215 := rfl
theorem k_L_holds_215 {g : Nat → Nat} {B : Nat} {s : Nat → Int32} {ss : Nat} {T : Nat → Int32} {n : Nat} {f : Nat → Int32} (ca : Nat → ClassId) : k_L_holds g B s ss T n f ca 215 = i_iload 3 216 := rfl
theorem k_L_holds_216 {g : Nat → Nat} {B : Nat} {s : Nat → Int32} {ss : Nat} {T : Nat → Int32} {n : Nat} {f : Nat → Int32} (ca : Nat → ClassId) : k_L_holds g B s ss T n f ca 216 = i_push (.int 1) 217 := rfl
theorem k_L_holds_217 {g : Nat → Nat} {B : Nat} {s : Nat → Int32} {ss : Nat} {T : Nat → Int32} {n : Nat} {f : Nat → Int32} (ca : Nat → ClassId) : k_L_holds g B s ss T n f ca 217 = i_callV 7 2 0 0 0 0 (sq_stripOf g B s ss T n f ca) 220 := rfl
theorem k_L_holds_220 {g : Nat → Nat} {B : Nat} {s : Nat → Int32} {ss : Nat} {T : Nat → Int32} {n : Nat} {f : Nat → Int32} (ca : Nat → ClassId) : k_L_holds g B s ss T n f ca 220 = i_iload 4 222 := rfl
theorem k_L_holds_222 {g : Nat → Nat} {B : Nat} {s : Nat → Int32} {ss : Nat} {T : Nat → Int32} {n : Nat} {f : Nat → Int32} (ca : Nat → ClassId) : k_L_holds g B s ss T n f ca 222 = i_icmp (fun x y => ¬ x = y) 341 225 := rfl
theorem k_L_holds_225 {g : Nat → Nat} {B : Nat} {s : Nat → Int32} {ss : Nat} {T : Nat → Int32} {n : Nat} {f : Nat → Int32} (ca : Nat → ClassId) : k_L_holds g B s ss T n f ca 225 = i_aload 0 226 := rfl
theorem k_L_holds_226 {g : Nat → Nat} {B : Nat} {s : Nat → Int32} {ss : Nat} {T : Nat → Int32} {n : Nat} {f : Nat → Int32} (ca : Nat → ClassId) : k_L_holds g B s ss T n f ca 226 = i_iload 3 227 := rfl
theorem k_L_holds_227 {g : Nat → Nat} {B : Nat} {s : Nat → Int32} {ss : Nat} {T : Nat → Int32} {n : Nat} {f : Nat → Int32} (ca : Nat → ClassId) : k_L_holds g B s ss T n f ca 227 = i_push (.int 2) 228 := rfl
theorem k_L_holds_228 {g : Nat → Nat} {B : Nat} {s : Nat → Int32} {ss : Nat} {T : Nat → Int32} {n : Nat} {f : Nat → Int32} (ca : Nat → ClassId) : k_L_holds g B s ss T n f ca 228 = i_callV 7 2 0 0 0 0 (sq_stripOf g B s ss T n f ca) 231 := rfl
theorem k_L_holds_231 {g : Nat → Nat} {B : Nat} {s : Nat → Int32} {ss : Nat} {T : Nat → Int32} {n : Nat} {f : Nat → Int32} (ca : Nat → ClassId) : k_L_holds g B s ss T n f ca 231 = i_iload 5 233 := rfl
theorem k_L_holds_233 {g : Nat → Nat} {B : Nat} {s : Nat → Int32} {ss : Nat} {T : Nat → Int32} {n : Nat} {f : Nat → Int32} (ca : Nat → ClassId) : k_L_holds g B s ss T n f ca 233 = i_icmp (fun x y => ¬ x = y) 341 236 := rfl
theorem k_L_holds_236 {g : Nat → Nat} {B : Nat} {s : Nat → Int32} {ss : Nat} {T : Nat → Int32} {n : Nat} {f : Nat → Int32} (ca : Nat → ClassId) : k_L_holds g B s ss T n f ca 236 = i_aload 0 237 := rfl
theorem k_L_holds_237 {g : Nat → Nat} {B : Nat} {s : Nat → Int32} {ss : Nat} {T : Nat → Int32} {n : Nat} {f : Nat → Int32} (ca : Nat → ClassId) : k_L_holds g B s ss T n f ca 237 = i_iload 3 238 := rfl
theorem k_L_holds_238 {g : Nat → Nat} {B : Nat} {s : Nat → Int32} {ss : Nat} {T : Nat → Int32} {n : Nat} {f : Nat → Int32} (ca : Nat → ClassId) : k_L_holds g B s ss T n f ca 238 = i_push (.int 3) 239 := rfl
theorem k_L_holds_239 {g : Nat → Nat} {B : Nat} {s : Nat → Int32} {ss : Nat} {T : Nat → Int32} {n : Nat} {f : Nat → Int32} (ca : Nat → ClassId) : k_L_holds g B s ss T n f ca 239 = i_callV 7 2 0 0 0 0 (sq_stripOf g B s ss T n f ca) 242 := rfl
theorem k_L_holds_242 {g : Nat → Nat} {B : Nat} {s : Nat → Int32} {ss : Nat} {T : Nat → Int32} {n : Nat} {f : Nat → Int32} (ca : Nat → ClassId) : k_L_holds g B s ss T n f ca 242 = i_iload 5 244 := rfl
theorem k_L_holds_244 {g : Nat → Nat} {B : Nat} {s : Nat → Int32} {ss : Nat} {T : Nat → Int32} {n : Nat} {f : Nat → Int32} (ca : Nat → ClassId) : k_L_holds g B s ss T n f ca 244 = i_iload 6 246 := rfl
theorem k_L_holds_246 {g : Nat → Nat} {B : Nat} {s : Nat → Int32} {ss : Nat} {T : Nat → Int32} {n : Nat} {f : Nat → Int32} (ca : Nat → ClassId) : k_L_holds g B s ss T n f ca 246 = i_push (.int 200) 249 := rfl
theorem k_L_holds_249 {g : Nat → Nat} {B : Nat} {s : Nat → Int32} {ss : Nat} {T : Nat → Int32} {n : Nat} {f : Nat → Int32} (ca : Nat → ClassId) : k_L_holds g B s ss T n f ca 249 = i_bin (fun x y => x - y) 250 := rfl
theorem k_L_holds_250 {g : Nat → Nat} {B : Nat} {s : Nat → Int32} {ss : Nat} {T : Nat → Int32} {n : Nat} {f : Nat → Int32} (ca : Nat → ClassId) : k_L_holds g B s ss T n f ca 250 = i_bin (fun x y => x * y) 251 := rfl
theorem k_L_holds_251 {g : Nat → Nat} {B : Nat} {s : Nat → Int32} {ss : Nat} {T : Nat → Int32} {n : Nat} {f : Nat → Int32} (ca : Nat → ClassId) : k_L_holds g B s ss T n f ca 251 = i_icmp (fun x y => ¬ x = y) 341 254 := rfl
theorem k_L_holds_254 {g : Nat → Nat} {B : Nat} {s : Nat → Int32} {ss : Nat} {T : Nat → Int32} {n : Nat} {f : Nat → Int32} (ca : Nat → ClassId) : k_L_holds g B s ss T n f ca 254 = i_aload 0 255 := rfl
theorem k_L_holds_255 {g : Nat → Nat} {B : Nat} {s : Nat → Int32} {ss : Nat} {T : Nat → Int32} {n : Nat} {f : Nat → Int32} (ca : Nat → ClassId) : k_L_holds g B s ss T n f ca 255 = i_iload 3 256 := rfl
theorem k_L_holds_256 {g : Nat → Nat} {B : Nat} {s : Nat → Int32} {ss : Nat} {T : Nat → Int32} {n : Nat} {f : Nat → Int32} (ca : Nat → ClassId) : k_L_holds g B s ss T n f ca 256 = i_iload 6 258 := rfl
theorem k_L_holds_258 {g : Nat → Nat} {B : Nat} {s : Nat → Int32} {ss : Nat} {T : Nat → Int32} {n : Nat} {f : Nat → Int32} (ca : Nat → ClassId) : k_L_holds g B s ss T n f ca 258 = i_callV 7 2 0 0 0 0 (sq_bend g B s ss T n f ca) 261 := rfl
theorem k_L_holds_261 {g : Nat → Nat} {B : Nat} {s : Nat → Int32} {ss : Nat} {T : Nat → Int32} {n : Nat} {f : Nat → Int32} (ca : Nat → ClassId) : k_L_holds g B s ss T n f ca 261 = i_aload 0 262 := rfl
theorem k_L_holds_262 {g : Nat → Nat} {B : Nat} {s : Nat → Int32} {ss : Nat} {T : Nat → Int32} {n : Nat} {f : Nat → Int32} (ca : Nat → ClassId) : k_L_holds g B s ss T n f ca 262 = i_iload 3 263 := rfl
theorem k_L_holds_263 {g : Nat → Nat} {B : Nat} {s : Nat → Int32} {ss : Nat} {T : Nat → Int32} {n : Nat} {f : Nat → Int32} (ca : Nat → ClassId) : k_L_holds g B s ss T n f ca 263 = i_push (.int 3) 264 := rfl
theorem k_L_holds_264 {g : Nat → Nat} {B : Nat} {s : Nat → Int32} {ss : Nat} {T : Nat → Int32} {n : Nat} {f : Nat → Int32} (ca : Nat → ClassId) : k_L_holds g B s ss T n f ca 264 = i_callV 7 2 0 0 0 0 (sq_stripOf g B s ss T n f ca) 267 := rfl
theorem k_L_holds_267 {g : Nat → Nat} {B : Nat} {s : Nat → Int32} {ss : Nat} {T : Nat → Int32} {n : Nat} {f : Nat → Int32} (ca : Nat → ClassId) : k_L_holds g B s ss T n f ca 267 = i_icmp (fun x y => ¬ x = y) 341 270 := rfl
theorem k_L_holds_270 {g : Nat → Nat} {B : Nat} {s : Nat → Int32} {ss : Nat} {T : Nat → Int32} {n : Nat} {f : Nat → Int32} (ca : Nat → ClassId) : k_L_holds g B s ss T n f ca 270 = i_aload 0 271 := rfl
theorem k_L_holds_271 {g : Nat → Nat} {B : Nat} {s : Nat → Int32} {ss : Nat} {T : Nat → Int32} {n : Nat} {f : Nat → Int32} (ca : Nat → ClassId) : k_L_holds g B s ss T n f ca 271 = i_iload 3 272 := rfl
theorem k_L_holds_272 {g : Nat → Nat} {B : Nat} {s : Nat → Int32} {ss : Nat} {T : Nat → Int32} {n : Nat} {f : Nat → Int32} (ca : Nat → ClassId) : k_L_holds g B s ss T n f ca 272 = i_push (.int 4) 273 := rfl
theorem k_L_holds_273 {g : Nat → Nat} {B : Nat} {s : Nat → Int32} {ss : Nat} {T : Nat → Int32} {n : Nat} {f : Nat → Int32} (ca : Nat → ClassId) : k_L_holds g B s ss T n f ca 273 = i_callV 7 2 0 0 0 0 (sq_stripOf g B s ss T n f ca) 276 := rfl
theorem k_L_holds_276 {g : Nat → Nat} {B : Nat} {s : Nat → Int32} {ss : Nat} {T : Nat → Int32} {n : Nat} {f : Nat → Int32} (ca : Nat → ClassId) : k_L_holds g B s ss T n f ca 276 = i_aload 0 277 := rfl
theorem k_L_holds_277 {g : Nat → Nat} {B : Nat} {s : Nat → Int32} {ss : Nat} {T : Nat → Int32} {n : Nat} {f : Nat → Int32} (ca : Nat → ClassId) : k_L_holds g B s ss T n f ca 277 = i_iload 3 278 := rfl
theorem k_L_holds_278 {g : Nat → Nat} {B : Nat} {s : Nat → Int32} {ss : Nat} {T : Nat → Int32} {n : Nat} {f : Nat → Int32} (ca : Nat → ClassId) : k_L_holds g B s ss T n f ca 278 = i_push (.int 5) 279 := rfl
theorem k_L_holds_279 {g : Nat → Nat} {B : Nat} {s : Nat → Int32} {ss : Nat} {T : Nat → Int32} {n : Nat} {f : Nat → Int32} (ca : Nat → ClassId) : k_L_holds g B s ss T n f ca 279 = i_callV 7 2 0 0 0 0 (sq_stripOf g B s ss T n f ca) 282 := rfl
theorem k_L_holds_282 {g : Nat → Nat} {B : Nat} {s : Nat → Int32} {ss : Nat} {T : Nat → Int32} {n : Nat} {f : Nat → Int32} (ca : Nat → ClassId) : k_L_holds g B s ss T n f ca 282 = i_icmp (fun x y => y ≤ x) 341 285 := rfl
theorem k_L_holds_285 {g : Nat → Nat} {B : Nat} {s : Nat → Int32} {ss : Nat} {T : Nat → Int32} {n : Nat} {f : Nat → Int32} (ca : Nat → ClassId) : k_L_holds g B s ss T n f ca 285 = i_aload 0 286 := rfl
theorem k_L_holds_286 {g : Nat → Nat} {B : Nat} {s : Nat → Int32} {ss : Nat} {T : Nat → Int32} {n : Nat} {f : Nat → Int32} (ca : Nat → ClassId) : k_L_holds g B s ss T n f ca 286 = i_iload 3 287 := rfl
theorem k_L_holds_287 {g : Nat → Nat} {B : Nat} {s : Nat → Int32} {ss : Nat} {T : Nat → Int32} {n : Nat} {f : Nat → Int32} (ca : Nat → ClassId) : k_L_holds g B s ss T n f ca 287 = i_push (.int 8) 289 := rfl
theorem k_L_holds_289 {g : Nat → Nat} {B : Nat} {s : Nat → Int32} {ss : Nat} {T : Nat → Int32} {n : Nat} {f : Nat → Int32} (ca : Nat → ClassId) : k_L_holds g B s ss T n f ca 289 = i_callV 7 2 0 0 0 0 (sq_stripOf g B s ss T n f ca) 292 := rfl
theorem k_L_holds_292 {g : Nat → Nat} {B : Nat} {s : Nat → Int32} {ss : Nat} {T : Nat → Int32} {n : Nat} {f : Nat → Int32} (ca : Nat → ClassId) : k_L_holds g B s ss T n f ca 292 = i_push (.int 5) 293 := rfl
theorem k_L_holds_293 {g : Nat → Nat} {B : Nat} {s : Nat → Int32} {ss : Nat} {T : Nat → Int32} {n : Nat} {f : Nat → Int32} (ca : Nat → ClassId) : k_L_holds g B s ss T n f ca 293 = i_icmp (fun x y => y < x) 341 296 := rfl
theorem k_L_holds_296 {g : Nat → Nat} {B : Nat} {s : Nat → Int32} {ss : Nat} {T : Nat → Int32} {n : Nat} {f : Nat → Int32} (ca : Nat → ClassId) : k_L_holds g B s ss T n f ca 296 = i_aload 0 297 := rfl
theorem k_L_holds_297 {g : Nat → Nat} {B : Nat} {s : Nat → Int32} {ss : Nat} {T : Nat → Int32} {n : Nat} {f : Nat → Int32} (ca : Nat → ClassId) : k_L_holds g B s ss T n f ca 297 = i_iload 3 298 := rfl
theorem k_L_holds_298 {g : Nat → Nat} {B : Nat} {s : Nat → Int32} {ss : Nat} {T : Nat → Int32} {n : Nat} {f : Nat → Int32} (ca : Nat → ClassId) : k_L_holds g B s ss T n f ca 298 = i_push (.int 11) 300 := rfl
theorem k_L_holds_300 {g : Nat → Nat} {B : Nat} {s : Nat → Int32} {ss : Nat} {T : Nat → Int32} {n : Nat} {f : Nat → Int32} (ca : Nat → ClassId) : k_L_holds g B s ss T n f ca 300 = i_callV 7 2 0 0 0 0 (sq_stripOf g B s ss T n f ca) 303 := rfl
theorem k_L_holds_303 {g : Nat → Nat} {B : Nat} {s : Nat → Int32} {ss : Nat} {T : Nat → Int32} {n : Nat} {f : Nat → Int32} (ca : Nat → ClassId) : k_L_holds g B s ss T n f ca 303 = i_push (.int 1) 304 := rfl
theorem k_L_holds_304 {g : Nat → Nat} {B : Nat} {s : Nat → Int32} {ss : Nat} {T : Nat → Int32} {n : Nat} {f : Nat → Int32} (ca : Nat → ClassId) : k_L_holds g B s ss T n f ca 304 = i_icmp (fun x y => ¬ x = y) 311 307 := rfl
theorem k_L_holds_307 {g : Nat → Nat} {B : Nat} {s : Nat → Int32} {ss : Nat} {T : Nat → Int32} {n : Nat} {f : Nat → Int32} (ca : Nat → ClassId) : k_L_holds g B s ss T n f ca 307 = i_push (.int 1) 308 := rfl
theorem k_L_holds_308 {g : Nat → Nat} {B : Nat} {s : Nat → Int32} {ss : Nat} {T : Nat → Int32} {n : Nat} {f : Nat → Int32} (ca : Nat → ClassId) : k_L_holds g B s ss T n f ca 308 = i_goto 312 := rfl
theorem k_L_holds_311 {g : Nat → Nat} {B : Nat} {s : Nat → Int32} {ss : Nat} {T : Nat → Int32} {n : Nat} {f : Nat → Int32} (ca : Nat → ClassId) : k_L_holds g B s ss T n f ca 311 = i_push (.int 0) 312 := rfl
theorem k_L_holds_312 {g : Nat → Nat} {B : Nat} {s : Nat → Int32} {ss : Nat} {T : Nat → Int32} {n : Nat} {f : Nat → Int32} (ca : Nat → ClassId) : k_L_holds g B s ss T n f ca 312 = i_aload 0 313 := rfl
theorem k_L_holds_313 {g : Nat → Nat} {B : Nat} {s : Nat → Int32} {ss : Nat} {T : Nat → Int32} {n : Nat} {f : Nat → Int32} (ca : Nat → ClassId) : k_L_holds g B s ss T n f ca 313 = i_iload 3 314 := rfl
theorem k_L_holds_314 {g : Nat → Nat} {B : Nat} {s : Nat → Int32} {ss : Nat} {T : Nat → Int32} {n : Nat} {f : Nat → Int32} (ca : Nat → ClassId) : k_L_holds g B s ss T n f ca 314 = i_push (.int 7) 316 := rfl
theorem k_L_holds_316 {g : Nat → Nat} {B : Nat} {s : Nat → Int32} {ss : Nat} {T : Nat → Int32} {n : Nat} {f : Nat → Int32} (ca : Nat → ClassId) : k_L_holds g B s ss T n f ca 316 = i_callV 7 2 0 0 0 0 (sq_stripOf g B s ss T n f ca) 319 := rfl
theorem k_L_holds_319 {g : Nat → Nat} {B : Nat} {s : Nat → Int32} {ss : Nat} {T : Nat → Int32} {n : Nat} {f : Nat → Int32} (ca : Nat → ClassId) : k_L_holds g B s ss T n f ca 319 = i_aload 0 320 := rfl
theorem k_L_holds_320 {g : Nat → Nat} {B : Nat} {s : Nat → Int32} {ss : Nat} {T : Nat → Int32} {n : Nat} {f : Nat → Int32} (ca : Nat → ClassId) : k_L_holds g B s ss T n f ca 320 = i_iload 3 321 := rfl
theorem k_L_holds_321 {g : Nat → Nat} {B : Nat} {s : Nat → Int32} {ss : Nat} {T : Nat → Int32} {n : Nat} {f : Nat → Int32} (ca : Nat → ClassId) : k_L_holds g B s ss T n f ca 321 = i_push (.int 10) 323 := rfl
theorem k_L_holds_323 {g : Nat → Nat} {B : Nat} {s : Nat → Int32} {ss : Nat} {T : Nat → Int32} {n : Nat} {f : Nat → Int32} (ca : Nat → ClassId) : k_L_holds g B s ss T n f ca 323 = i_callV 7 2 0 0 0 0 (sq_stripOf g B s ss T n f ca) 326 := rfl
theorem k_L_holds_326 {g : Nat → Nat} {B : Nat} {s : Nat → Int32} {ss : Nat} {T : Nat → Int32} {n : Nat} {f : Nat → Int32} (ca : Nat → ClassId) : k_L_holds g B s ss T n f ca 326 = i_icmp (fun x y => ¬ x = y) 333 329 := rfl
theorem k_L_holds_329 {g : Nat → Nat} {B : Nat} {s : Nat → Int32} {ss : Nat} {T : Nat → Int32} {n : Nat} {f : Nat → Int32} (ca : Nat → ClassId) : k_L_holds g B s ss T n f ca 329 = i_push (.int 1) 330 := rfl
theorem k_L_holds_330 {g : Nat → Nat} {B : Nat} {s : Nat → Int32} {ss : Nat} {T : Nat → Int32} {n : Nat} {f : Nat → Int32} (ca : Nat → ClassId) : k_L_holds g B s ss T n f ca 330 = i_goto 334 := rfl
theorem k_L_holds_333 {g : Nat → Nat} {B : Nat} {s : Nat → Int32} {ss : Nat} {T : Nat → Int32} {n : Nat} {f : Nat → Int32} (ca : Nat → ClassId) : k_L_holds g B s ss T n f ca 333 = i_push (.int 0) 334 := rfl
theorem k_L_holds_334 {g : Nat → Nat} {B : Nat} {s : Nat → Int32} {ss : Nat} {T : Nat → Int32} {n : Nat} {f : Nat → Int32} (ca : Nat → ClassId) : k_L_holds g B s ss T n f ca 334 = i_icmp (fun x y => ¬ x = y) 341 337 := rfl
theorem k_L_holds_337 {g : Nat → Nat} {B : Nat} {s : Nat → Int32} {ss : Nat} {T : Nat → Int32} {n : Nat} {f : Nat → Int32} (ca : Nat → ClassId) : k_L_holds g B s ss T n f ca 337 = i_push (.int 1) 338 := rfl
theorem k_L_holds_338 {g : Nat → Nat} {B : Nat} {s : Nat → Int32} {ss : Nat} {T : Nat → Int32} {n : Nat} {f : Nat → Int32} (ca : Nat → ClassId) : k_L_holds g B s ss T n f ca 338 = i_goto 342 := rfl
theorem k_L_holds_341 {g : Nat → Nat} {B : Nat} {s : Nat → Int32} {ss : Nat} {T : Nat → Int32} {n : Nat} {f : Nat → Int32} (ca : Nat → ClassId) : k_L_holds g B s ss T n f ca 341 = i_push (.int 0) 342 := rfl
theorem k_L_holds_342 {g : Nat → Nat} {B : Nat} {s : Nat → Int32} {ss : Nat} {T : Nat → Int32} {n : Nat} {f : Nat → Int32} (ca : Nat → ClassId) : k_L_holds g B s ss T n f ca 342 = i_istore 11 344 := rfl
theorem k_L_holds_344 {g : Nat → Nat} {B : Nat} {s : Nat → Int32} {ss : Nat} {T : Nat → Int32} {n : Nat} {f : Nat → Int32} (ca : Nat → ClassId) : k_L_holds g B s ss T n f ca 344 = i_iload 6 346 := rfl
theorem k_L_holds_346 {g : Nat → Nat} {B : Nat} {s : Nat → Int32} {ss : Nat} {T : Nat → Int32} {n : Nat} {f : Nat → Int32} (ca : Nat → ClassId) : k_L_holds g B s ss T n f ca 346 = i_push (.int (-500)) 349 := rfl
theorem k_L_holds_349 {g : Nat → Nat} {B : Nat} {s : Nat → Int32} {ss : Nat} {T : Nat → Int32} {n : Nat} {f : Nat → Int32} (ca : Nat → ClassId) : k_L_holds g B s ss T n f ca 349 = i_icmp (fun x y => x < y) 416 352 := rfl
theorem k_L_holds_352 {g : Nat → Nat} {B : Nat} {s : Nat → Int32} {ss : Nat} {T : Nat → Int32} {n : Nat} {f : Nat → Int32} (ca : Nat → ClassId) : k_L_holds g B s ss T n f ca 352 = i_iload 6 354 := rfl
theorem k_L_holds_354 {g : Nat → Nat} {B : Nat} {s : Nat → Int32} {ss : Nat} {T : Nat → Int32} {n : Nat} {f : Nat → Int32} (ca : Nat → ClassId) : k_L_holds g B s ss T n f ca 354 = i_push (.int 1500) 357 := rfl
theorem k_L_holds_357 {g : Nat → Nat} {B : Nat} {s : Nat → Int32} {ss : Nat} {T : Nat → Int32} {n : Nat} {f : Nat → Int32} (ca : Nat → ClassId) : k_L_holds g B s ss T n f ca 357 = i_icmp (fun x y => y < x) 416 360 := rfl
theorem k_L_holds_360 {g : Nat → Nat} {B : Nat} {s : Nat → Int32} {ss : Nat} {T : Nat → Int32} {n : Nat} {f : Nat → Int32} (ca : Nat → ClassId) : k_L_holds g B s ss T n f ca 360 = i_aload 0 361 := rfl
theorem k_L_holds_361 {g : Nat → Nat} {B : Nat} {s : Nat → Int32} {ss : Nat} {T : Nat → Int32} {n : Nat} {f : Nat → Int32} (ca : Nat → ClassId) : k_L_holds g B s ss T n f ca 361 = i_push (.int 0) 362 := rfl
theorem k_L_holds_362 {g : Nat → Nat} {B : Nat} {s : Nat → Int32} {ss : Nat} {T : Nat → Int32} {n : Nat} {f : Nat → Int32} (ca : Nat → ClassId) : k_L_holds g B s ss T n f ca 362 = i_callV 7 1 0 0 0 0 (sq_count g B s ss T n f ca) 365 := rfl
theorem k_L_holds_365 {g : Nat → Nat} {B : Nat} {s : Nat → Int32} {ss : Nat} {T : Nat → Int32} {n : Nat} {f : Nat → Int32} (ca : Nat → ClassId) : k_L_holds g B s ss T n f ca 365 = i_if (fun x => ¬ x = 0) 382 368 := rfl
theorem k_L_holds_368 {g : Nat → Nat} {B : Nat} {s : Nat → Int32} {ss : Nat} {T : Nat → Int32} {n : Nat} {f : Nat → Int32} (ca : Nat → ClassId) : k_L_holds g B s ss T n f ca 368 = i_aload 0 369 := rfl
theorem k_L_holds_369 {g : Nat → Nat} {B : Nat} {s : Nat → Int32} {ss : Nat} {T : Nat → Int32} {n : Nat} {f : Nat → Int32} (ca : Nat → ClassId) : k_L_holds g B s ss T n f ca 369 = i_iload 3 370 := rfl
theorem k_L_holds_370 {g : Nat → Nat} {B : Nat} {s : Nat → Int32} {ss : Nat} {T : Nat → Int32} {n : Nat} {f : Nat → Int32} (ca : Nat → ClassId) : k_L_holds g B s ss T n f ca 370 = i_push (.int 5) 371 := rfl
theorem k_L_holds_371 {g : Nat → Nat} {B : Nat} {s : Nat → Int32} {ss : Nat} {T : Nat → Int32} {n : Nat} {f : Nat → Int32} (ca : Nat → ClassId) : k_L_holds g B s ss T n f ca 371 = i_callV 7 2 0 0 0 0 (sq_roomOf g B s ss T n f ca) 374 := rfl
theorem k_L_holds_374 {g : Nat → Nat} {B : Nat} {s : Nat → Int32} {ss : Nat} {T : Nat → Int32} {n : Nat} {f : Nat → Int32} (ca : Nat → ClassId) : k_L_holds g B s ss T n f ca 374 = i_push (.int (-10000004)) 376 := rfl
theorem k_L_holds_376 {g : Nat → Nat} {B : Nat} {s : Nat → Int32} {ss : Nat} {T : Nat → Int32} {n : Nat} {f : Nat → Int32} (ca : Nat → ClassId) : k_L_holds g B s ss T n f ca 376 = i_icmp (fun x y => ¬ x = y) 416 379 := rfl
theorem k_L_holds_379 {g : Nat → Nat} {B : Nat} {s : Nat → Int32} {ss : Nat} {T : Nat → Int32} {n : Nat} {f : Nat → Int32} (ca : Nat → ClassId) : k_L_holds g B s ss T n f ca 379 = i_goto 398 := rfl
theorem k_L_holds_382 {g : Nat → Nat} {B : Nat} {s : Nat → Int32} {ss : Nat} {T : Nat → Int32} {n : Nat} {f : Nat → Int32} (ca : Nat → ClassId) : k_L_holds g B s ss T n f ca 382 = i_aload 0 383 := rfl
theorem k_L_holds_383 {g : Nat → Nat} {B : Nat} {s : Nat → Int32} {ss : Nat} {T : Nat → Int32} {n : Nat} {f : Nat → Int32} (ca : Nat → ClassId) : k_L_holds g B s ss T n f ca 383 = i_iload 3 384 := rfl
theorem k_L_holds_384 {g : Nat → Nat} {B : Nat} {s : Nat → Int32} {ss : Nat} {T : Nat → Int32} {n : Nat} {f : Nat → Int32} (ca : Nat → ClassId) : k_L_holds g B s ss T n f ca 384 = i_push (.int 6) 386 := rfl
theorem k_L_holds_386 {g : Nat → Nat} {B : Nat} {s : Nat → Int32} {ss : Nat} {T : Nat → Int32} {n : Nat} {f : Nat → Int32} (ca : Nat → ClassId) : k_L_holds g B s ss T n f ca 386 = i_callV 7 2 0 0 0 0 (sq_roomOf g B s ss T n f ca) 389 := rfl
theorem k_L_holds_389 {g : Nat → Nat} {B : Nat} {s : Nat → Int32} {ss : Nat} {T : Nat → Int32} {n : Nat} {f : Nat → Int32} (ca : Nat → ClassId) : k_L_holds g B s ss T n f ca 389 = i_aload 0 390 := rfl
theorem k_L_holds_390 {g : Nat → Nat} {B : Nat} {s : Nat → Int32} {ss : Nat} {T : Nat → Int32} {n : Nat} {f : Nat → Int32} (ca : Nat → ClassId) : k_L_holds g B s ss T n f ca 390 = i_iload 3 391 := rfl
theorem k_L_holds_391 {g : Nat → Nat} {B : Nat} {s : Nat → Int32} {ss : Nat} {T : Nat → Int32} {n : Nat} {f : Nat → Int32} (ca : Nat → ClassId) : k_L_holds g B s ss T n f ca 391 = i_push (.int 5) 392 := rfl
theorem k_L_holds_392 {g : Nat → Nat} {B : Nat} {s : Nat → Int32} {ss : Nat} {T : Nat → Int32} {n : Nat} {f : Nat → Int32} (ca : Nat → ClassId) : k_L_holds g B s ss T n f ca 392 = i_callV 7 2 0 0 0 0 (sq_roomOf g B s ss T n f ca) 395 := rfl
theorem k_L_holds_395 {g : Nat → Nat} {B : Nat} {s : Nat → Int32} {ss : Nat} {T : Nat → Int32} {n : Nat} {f : Nat → Int32} (ca : Nat → ClassId) : k_L_holds g B s ss T n f ca 395 = i_icmp (fun x y => y < x) 416 398 := rfl
theorem k_L_holds_398 {g : Nat → Nat} {B : Nat} {s : Nat → Int32} {ss : Nat} {T : Nat → Int32} {n : Nat} {f : Nat → Int32} (ca : Nat → ClassId) : k_L_holds g B s ss T n f ca 398 = i_aload 0 399 := rfl
theorem k_L_holds_399 {g : Nat → Nat} {B : Nat} {s : Nat → Int32} {ss : Nat} {T : Nat → Int32} {n : Nat} {f : Nat → Int32} (ca : Nat → ClassId) : k_L_holds g B s ss T n f ca 399 = i_iload 3 400 := rfl
theorem k_L_holds_400 {g : Nat → Nat} {B : Nat} {s : Nat → Int32} {ss : Nat} {T : Nat → Int32} {n : Nat} {f : Nat → Int32} (ca : Nat → ClassId) : k_L_holds g B s ss T n f ca 400 = i_push (.int 4) 401 := rfl
theorem k_L_holds_401 {g : Nat → Nat} {B : Nat} {s : Nat → Int32} {ss : Nat} {T : Nat → Int32} {n : Nat} {f : Nat → Int32} (ca : Nat → ClassId) : k_L_holds g B s ss T n f ca 401 = i_callV 7 2 0 0 0 0 (sq_roomOf g B s ss T n f ca) 404 := rfl
theorem k_L_holds_404 {g : Nat → Nat} {B : Nat} {s : Nat → Int32} {ss : Nat} {T : Nat → Int32} {n : Nat} {f : Nat → Int32} (ca : Nat → ClassId) : k_L_holds g B s ss T n f ca 404 = i_aload 0 405 := rfl
theorem k_L_holds_405 {g : Nat → Nat} {B : Nat} {s : Nat → Int32} {ss : Nat} {T : Nat → Int32} {n : Nat} {f : Nat → Int32} (ca : Nat → ClassId) : k_L_holds g B s ss T n f ca 405 = i_push (.int 0) 406 := rfl
theorem k_L_holds_406 {g : Nat → Nat} {B : Nat} {s : Nat → Int32} {ss : Nat} {T : Nat → Int32} {n : Nat} {f : Nat → Int32} (ca : Nat → ClassId) : k_L_holds g B s ss T n f ca 406 = i_callV 7 1 0 0 0 0 (sq_count g B s ss T n f ca) 409 := rfl
theorem k_L_holds_409 {g : Nat → Nat} {B : Nat} {s : Nat → Int32} {ss : Nat} {T : Nat → Int32} {n : Nat} {f : Nat → Int32} (ca : Nat → ClassId) : k_L_holds g B s ss T n f ca 409 = i_icmp (fun x y => y < x) 416 412 := rfl
theorem k_L_holds_412 {g : Nat → Nat} {B : Nat} {s : Nat → Int32} {ss : Nat} {T : Nat → Int32} {n : Nat} {f : Nat → Int32} (ca : Nat → ClassId) : k_L_holds g B s ss T n f ca 412 = i_push (.int 1) 413 := rfl
theorem k_L_holds_413 {g : Nat → Nat} {B : Nat} {s : Nat → Int32} {ss : Nat} {T : Nat → Int32} {n : Nat} {f : Nat → Int32} (ca : Nat → ClassId) : k_L_holds g B s ss T n f ca 413 = i_goto 417 := rfl
theorem k_L_holds_416 {g : Nat → Nat} {B : Nat} {s : Nat → Int32} {ss : Nat} {T : Nat → Int32} {n : Nat} {f : Nat → Int32} (ca : Nat → ClassId) : k_L_holds g B s ss T n f ca 416 = i_push (.int 0) 417 := rfl
theorem k_L_holds_417 {g : Nat → Nat} {B : Nat} {s : Nat → Int32} {ss : Nat} {T : Nat → Int32} {n : Nat} {f : Nat → Int32} (ca : Nat → ClassId) : k_L_holds g B s ss T n f ca 417 = i_istore 12 419 := rfl
theorem k_L_holds_419 {g : Nat → Nat} {B : Nat} {s : Nat → Int32} {ss : Nat} {T : Nat → Int32} {n : Nat} {f : Nat → Int32} (ca : Nat → ClassId) : k_L_holds g B s ss T n f ca 419 = i_iload 11 421 := rfl
theorem k_L_holds_421 {g : Nat → Nat} {B : Nat} {s : Nat → Int32} {ss : Nat} {T : Nat → Int32} {n : Nat} {f : Nat → Int32} (ca : Nat → ClassId) : k_L_holds g B s ss T n f ca 421 = i_if (fun x => x = 0) 434 424 := rfl
theorem k_L_holds_424 {g : Nat → Nat} {B : Nat} {s : Nat → Int32} {ss : Nat} {T : Nat → Int32} {n : Nat} {f : Nat → Int32} (ca : Nat → ClassId) : k_L_holds g B s ss T n f ca 424 = i_iload 12 426 := rfl
theorem k_L_holds_426 {g : Nat → Nat} {B : Nat} {s : Nat → Int32} {ss : Nat} {T : Nat → Int32} {n : Nat} {f : Nat → Int32} (ca : Nat → ClassId) : k_L_holds g B s ss T n f ca 426 = i_if (fun x => x = 0) 434 429 := rfl
theorem k_L_holds_429 {g : Nat → Nat} {B : Nat} {s : Nat → Int32} {ss : Nat} {T : Nat → Int32} {n : Nat} {f : Nat → Int32} (ca : Nat → ClassId) : k_L_holds g B s ss T n f ca 429 = i_iload 10 431 := rfl
theorem k_L_holds_431 {g : Nat → Nat} {B : Nat} {s : Nat → Int32} {ss : Nat} {T : Nat → Int32} {n : Nat} {f : Nat → Int32} (ca : Nat → ClassId) : k_L_holds g B s ss T n f ca 431 = i_if (fun x => ¬ x = 0) 436 434 := rfl
theorem k_L_holds_434 {g : Nat → Nat} {B : Nat} {s : Nat → Int32} {ss : Nat} {T : Nat → Int32} {n : Nat} {f : Nat → Int32} (ca : Nat → ClassId) : k_L_holds g B s ss T n f ca 434 = i_push (.int 0) 435 := rfl
theorem k_L_holds_435 {g : Nat → Nat} {B : Nat} {s : Nat → Int32} {ss : Nat} {T : Nat → Int32} {n : Nat} {f : Nat → Int32} (ca : Nat → ClassId) : k_L_holds g B s ss T n f ca 435 = i_zret := rfl
theorem k_L_holds_436 {g : Nat → Nat} {B : Nat} {s : Nat → Int32} {ss : Nat} {T : Nat → Int32} {n : Nat} {f : Nat → Int32} (ca : Nat → ClassId) : k_L_holds g B s ss T n f ca 436 = i_iinc 3 1 439 := rfl
theorem k_L_holds_439 {g : Nat → Nat} {B : Nat} {s : Nat → Int32} {ss : Nat} {T : Nat → Int32} {n : Nat} {f : Nat → Int32} (ca : Nat → ClassId) : k_L_holds g B s ss T n f ca 439 = i_goto 4 := rfl
theorem k_L_holds_442 {g : Nat → Nat} {B : Nat} {s : Nat → Int32} {ss : Nat} {T : Nat → Int32} {n : Nat} {f : Nat → Int32} (ca : Nat → ClassId) : k_L_holds g B s ss T n f ca 442 = i_iload 2 443 := rfl
theorem k_L_holds_443 {g : Nat → Nat} {B : Nat} {s : Nat → Int32} {ss : Nat} {T : Nat → Int32} {n : Nat} {f : Nat → Int32} (ca : Nat → ClassId) : k_L_holds g B s ss T n f ca 443 = i_aload 0 444 := rfl
theorem k_L_holds_444 {g : Nat → Nat} {B : Nat} {s : Nat → Int32} {ss : Nat} {T : Nat → Int32} {n : Nat} {f : Nat → Int32} (ca : Nat → ClassId) : k_L_holds g B s ss T n f ca 444 = i_push (.int 1) 445 := rfl
theorem k_L_holds_445 {g : Nat → Nat} {B : Nat} {s : Nat → Int32} {ss : Nat} {T : Nat → Int32} {n : Nat} {f : Nat → Int32} (ca : Nat → ClassId) : k_L_holds g B s ss T n f ca 445 = i_callV 7 1 0 0 0 0 (sq_count g B s ss T n f ca) 448 := rfl
theorem k_L_holds_448 {g : Nat → Nat} {B : Nat} {s : Nat → Int32} {ss : Nat} {T : Nat → Int32} {n : Nat} {f : Nat → Int32} (ca : Nat → ClassId) : k_L_holds g B s ss T n f ca 448 = i_icmp (fun x y => ¬ x = y) 488 451 := rfl
theorem k_L_holds_451 {g : Nat → Nat} {B : Nat} {s : Nat → Int32} {ss : Nat} {T : Nat → Int32} {n : Nat} {f : Nat → Int32} (ca : Nat → ClassId) : k_L_holds g B s ss T n f ca 451 = i_aload 0 452 := rfl
theorem k_L_holds_452 {g : Nat → Nat} {B : Nat} {s : Nat → Int32} {ss : Nat} {T : Nat → Int32} {n : Nat} {f : Nat → Int32} (ca : Nat → ClassId) : k_L_holds g B s ss T n f ca 452 = i_push (.int 0) 453 := rfl
theorem k_L_holds_453 {g : Nat → Nat} {B : Nat} {s : Nat → Int32} {ss : Nat} {T : Nat → Int32} {n : Nat} {f : Nat → Int32} (ca : Nat → ClassId) : k_L_holds g B s ss T n f ca 453 = i_callV 7 1 0 0 0 0 (sp_X7_loop ca) 456 := rfl
theorem k_L_holds_456 {g : Nat → Nat} {B : Nat} {s : Nat → Int32} {ss : Nat} {T : Nat → Int32} {n : Nat} {f : Nat → Int32} (ca : Nat → ClassId) : k_L_holds g B s ss T n f ca 456 = i_push (.int (-10000004)) 458 := rfl
theorem k_L_holds_458 {g : Nat → Nat} {B : Nat} {s : Nat → Int32} {ss : Nat} {T : Nat → Int32} {n : Nat} {f : Nat → Int32} (ca : Nat → ClassId) : k_L_holds g B s ss T n f ca 458 = i_icmp (fun x y => ¬ x = y) 465 461 := rfl
theorem k_L_holds_461 {g : Nat → Nat} {B : Nat} {s : Nat → Int32} {ss : Nat} {T : Nat → Int32} {n : Nat} {f : Nat → Int32} (ca : Nat → ClassId) : k_L_holds g B s ss T n f ca 461 = i_push (.int 1) 462 := rfl
theorem k_L_holds_462 {g : Nat → Nat} {B : Nat} {s : Nat → Int32} {ss : Nat} {T : Nat → Int32} {n : Nat} {f : Nat → Int32} (ca : Nat → ClassId) : k_L_holds g B s ss T n f ca 462 = i_goto 466 := rfl
theorem k_L_holds_465 {g : Nat → Nat} {B : Nat} {s : Nat → Int32} {ss : Nat} {T : Nat → Int32} {n : Nat} {f : Nat → Int32} (ca : Nat → ClassId) : k_L_holds g B s ss T n f ca 465 = i_push (.int 0) 466 := rfl
theorem k_L_holds_466 {g : Nat → Nat} {B : Nat} {s : Nat → Int32} {ss : Nat} {T : Nat → Int32} {n : Nat} {f : Nat → Int32} (ca : Nat → ClassId) : k_L_holds g B s ss T n f ca 466 = i_aload 0 467 := rfl
theorem k_L_holds_467 {g : Nat → Nat} {B : Nat} {s : Nat → Int32} {ss : Nat} {T : Nat → Int32} {n : Nat} {f : Nat → Int32} (ca : Nat → ClassId) : k_L_holds g B s ss T n f ca 467 = i_push (.int 1) 468 := rfl
theorem k_L_holds_468 {g : Nat → Nat} {B : Nat} {s : Nat → Int32} {ss : Nat} {T : Nat → Int32} {n : Nat} {f : Nat → Int32} (ca : Nat → ClassId) : k_L_holds g B s ss T n f ca 468 = i_callV 7 1 0 0 0 0 (sp_X7_loop ca) 471 := rfl
theorem k_L_holds_471 {g : Nat → Nat} {B : Nat} {s : Nat → Int32} {ss : Nat} {T : Nat → Int32} {n : Nat} {f : Nat → Int32} (ca : Nat → ClassId) : k_L_holds g B s ss T n f ca 471 = i_push (.int (-10000004)) 473 := rfl
theorem k_L_holds_473 {g : Nat → Nat} {B : Nat} {s : Nat → Int32} {ss : Nat} {T : Nat → Int32} {n : Nat} {f : Nat → Int32} (ca : Nat → ClassId) : k_L_holds g B s ss T n f ca 473 = i_icmp (fun x y => ¬ x = y) 480 476 := rfl
theorem k_L_holds_476 {g : Nat → Nat} {B : Nat} {s : Nat → Int32} {ss : Nat} {T : Nat → Int32} {n : Nat} {f : Nat → Int32} (ca : Nat → ClassId) : k_L_holds g B s ss T n f ca 476 = i_push (.int 1) 477 := rfl
theorem k_L_holds_477 {g : Nat → Nat} {B : Nat} {s : Nat → Int32} {ss : Nat} {T : Nat → Int32} {n : Nat} {f : Nat → Int32} (ca : Nat → ClassId) : k_L_holds g B s ss T n f ca 477 = i_goto 481 := rfl
theorem k_L_holds_480 {g : Nat → Nat} {B : Nat} {s : Nat → Int32} {ss : Nat} {T : Nat → Int32} {n : Nat} {f : Nat → Int32} (ca : Nat → ClassId) : k_L_holds g B s ss T n f ca 480 = i_push (.int 0) 481 := rfl
theorem k_L_holds_481 {g : Nat → Nat} {B : Nat} {s : Nat → Int32} {ss : Nat} {T : Nat → Int32} {n : Nat} {f : Nat → Int32} (ca : Nat → ClassId) : k_L_holds g B s ss T n f ca 481 = i_icmp (fun x y => ¬ x = y) 488 484 := rfl
theorem k_L_holds_484 {g : Nat → Nat} {B : Nat} {s : Nat → Int32} {ss : Nat} {T : Nat → Int32} {n : Nat} {f : Nat → Int32} (ca : Nat → ClassId) : k_L_holds g B s ss T n f ca 484 = i_push (.int 1) 485 := rfl
theorem k_L_holds_485 {g : Nat → Nat} {B : Nat} {s : Nat → Int32} {ss : Nat} {T : Nat → Int32} {n : Nat} {f : Nat → Int32} (ca : Nat → ClassId) : k_L_holds g B s ss T n f ca 485 = i_goto 489 := rfl
theorem k_L_holds_488 {g : Nat → Nat} {B : Nat} {s : Nat → Int32} {ss : Nat} {T : Nat → Int32} {n : Nat} {f : Nat → Int32} (ca : Nat → ClassId) : k_L_holds g B s ss T n f ca 488 = i_push (.int 0) 489 := rfl
theorem k_L_holds_489 {g : Nat → Nat} {B : Nat} {s : Nat → Int32} {ss : Nat} {T : Nat → Int32} {n : Nat} {f : Nat → Int32} (ca : Nat → ClassId) : k_L_holds g B s ss T n f ca 489 = i_zret := rfl
theorem low2 (v : Int32) : lowI v 2 = 0 ∨ lowI v 2 = 1 := by
  obtain ⟨r, hr, e⟩ := lowI_n v (M := 2) (by decide) (by decide)
  have e' : lowI v 2 = nI r := e
  have : r = 0 ∨ r = 1 := by omega
  rcases this with rfl | rfl
  · exact Or.inl e'
  · exact Or.inr e'
theorem closd_q {ki si : Int32} (hk : ki = 0 ∨ ki = 1) (hs : si = 0 ∨ si = 1) : (b2i (closedF ki si) = 1 ∧ si = ki) ∨ (b2i (closedF ki si) = 0 ∧ ¬ si = ki) := by
  rcases hk with rfl | rfl <;> rcases hs with rfl | rfl
  · exact Or.inl ⟨rfl, rfl⟩
  · exact Or.inr ⟨rfl, by decide⟩
  · exact Or.inr ⟨rfl, by decide⟩
  · exact Or.inl ⟨rfl, rfl⟩
set_option maxHeartbeats 4000000 in
set_option maxRecDepth 20000 in
theorem ok_L_holds (l : Launch) (D : va_G) (ca : Nat → ClassId) : OkAll l D ca yL_holds cL_holds 13 (some .boolean) 6 0 0 (sp_L_holds ca) := by
  intro av h post hs
  obtain ⟨g, B, s, ss, T, n, f, x, rfl, H, hs⟩ := hs
  obtain ⟨fs, c7⟩ := H.cell
  have W := H.wf
  have E := H.iv.2
  refine okM_of (t_L_holds g B s ss T n f) (by decide +kernel) (c1_ref (c1_int c1_nil)) (Nat.le_of_ble_eq_true rfl) ?_
  intro K go
  have z2 : ¬ (2 : Int32) = 0 := by decide
  have rooms : ∀ k, k < 3 → ∀ (sn bk lw at' bd it : Int32) (y : Int32) (z : Int32), (∀ m4 m5 m6 m7 m8 m9 m10 m11 m12, K 0 0 4 [some (.ref (g 0)), some (.int x), some (.int sn), some (.int (nI (k + 1))), m4, m5, m6, m7, m8, m9, m10, m11, m12] [] h) → ∀ m12, K 0 0 344 [some (.ref (g 0)), some (.int x), some (.int sn), some (.int (nI k)), some (.int lw), some (.int bd), some (.int (s (106 + 7 * k))), some (.int bk), some (.int at'), some (.int it), some (.int 1), some (.int 1), m12] [] h := by
    intro k hk sn bk lw at' bd it y z nx m12
    have wm := isIn_z.mp (W.wm hk)
    have cl : ¬ s (106 + 7 * k) < -500 := by rw [Int32.lt_iff_toInt_lt]; omega
    have ch : ¬ 1500 < s (106 + 7 * k) := by rw [Int32.lt_iff_toInt_lt]; omega
    have e4 := ro4 (s := s) hk
    have e5 := ro5 (s := s) hk
    have e6 := ro6 (s := s) hk
    have ce : ¬ s 9 < s (110 + 7 * k) := Int32.not_lt.mpr (E.2.2 k hk)
    by_cases q9 : s 9 = 0
    · rw [if_pos q9] at e5 e6
      have ce' : ¬ (0 : Int32) < s (110 + 7 * k) := by rw [q9] at ce; exact ce
      refine goN go (stp [4]) 160 _ _ _ _ _ _ (fun F hF hF0 => ?_)
      simp only [hF, hF0, ite_not, i_push, i_iload, i_lload, i_aload, i_istore, i_astore, i_lstore, i_iinc, i_bin, i_dv, i_un, i_lbin, i_lsh, i_i2l, i_l2i, i_lcmp, i_dup, i_dup2, i_pop, i_if, i_icmp, i_goto, swG, i_sw, i_getf, i_puti, i_putz, i_putr, i_ald, i_lald, i_aald, i_ast, i_last, i_aast, i_alen, i_new, i_newi, i_newl, i_newq, i_oinit, i_ret, i_zret, i_lret, i_vret, catS, tk, rpush, isO, i_m1, i_m2, i_acopy, i_callV, i_callS, KRet, lget, lput, lputL, lcl0, isL, lv0, List.map_cons, List.map_nil, List.length_cons, List.length_nil, List.cons_append, List.nil_append, Nat.reduceAdd, Nat.reduceSub, Nat.reduceLeDiff, List.replicate_succ, List.replicate_zero, List.getElem?_cons_succ, List.getElem?_cons_zero, List.set_cons_succ, List.set_cons_zero, true_and, and_true, if_true, if_false, ↓reduceIte, Nat.le_refl, Value.category, va_up_app, eq_self, stp, Nat.reduceBEq, Bool.or_false, Bool.false_or, Bool.true_or, Bool.or_true, or_true, true_or, bx_uu, implies_true, true_implies, not_true, not_false_eq_true, false_implies, and_self, Nat.reduceLT, Int32.reduceAdd, Int32.reduceSub, Int32.reduceMul, Int32.reduceLE, Int32.reduceLT, Int32.reduceToNatClampNeg, va_rf_some, Bool.false_eq_true, k_L_holds_0 ca, k_L_holds_1 ca, k_L_holds_2 ca, k_L_holds_3 ca, k_L_holds_4 ca, k_L_holds_5 ca, k_L_holds_6 ca, k_L_holds_9 ca, k_L_holds_10 ca, k_L_holds_12 ca, k_L_holds_13 ca, k_L_holds_15 ca, k_L_holds_16 ca, k_L_holds_17 ca, k_L_holds_18 ca, k_L_holds_21 ca, k_L_holds_23 ca, k_L_holds_24 ca, k_L_holds_26 ca, k_L_holds_28 ca, k_L_holds_29 ca, k_L_holds_30 ca, k_L_holds_31 ca, k_L_holds_34 ca, k_L_holds_37 ca, k_L_holds_39 ca, k_L_holds_40 ca, k_L_holds_41 ca, k_L_holds_43 ca, k_L_holds_44 ca, k_L_holds_47 ca, k_L_holds_48 ca, k_L_holds_50 ca, k_L_holds_52 ca, k_L_holds_53 ca, k_L_holds_54 ca, k_L_holds_56 ca, k_L_holds_57 ca, k_L_holds_60 ca, k_L_holds_61 ca, k_L_holds_63 ca, k_L_holds_64 ca, k_L_holds_65 ca, k_L_holds_67 ca, k_L_holds_68 ca, k_L_holds_71 ca, k_L_holds_72 ca, k_L_holds_73 ca, k_L_holds_75 ca, k_L_holds_76 ca, k_L_holds_79 ca, k_L_holds_80 ca, k_L_holds_82 ca, k_L_holds_83 ca, k_L_holds_84 ca, k_L_holds_86 ca, k_L_holds_87 ca, k_L_holds_90 ca, k_L_holds_91 ca, k_L_holds_94 ca, k_L_holds_95 ca, k_L_holds_97 ca, k_L_holds_98 ca, k_L_holds_99 ca, k_L_holds_101 ca, k_L_holds_102 ca, k_L_holds_105 ca, k_L_holds_106 ca, k_L_holds_109 ca, k_L_holds_110 ca, k_L_holds_111 ca, k_L_holds_114 ca, k_L_holds_115 ca, k_L_holds_116 ca, k_L_holds_119 ca, k_L_holds_122 ca, k_L_holds_123 ca, k_L_holds_124 ca, k_L_holds_125 ca, k_L_holds_127 ca, k_L_holds_130 ca, k_L_holds_131 ca, k_L_holds_132 ca, k_L_holds_133 ca, k_L_holds_134 ca, k_L_holds_135 ca, k_L_holds_136 ca, k_L_holds_139 ca, k_L_holds_141 ca, k_L_holds_142 ca, k_L_holds_143 ca, k_L_holds_145 ca, k_L_holds_148 ca, k_L_holds_150 ca, k_L_holds_152 ca, k_L_holds_154 ca, k_L_holds_157 ca, k_L_holds_158 ca, k_L_holds_161 ca, k_L_holds_162 ca, k_L_holds_163 ca, k_L_holds_165 ca, k_L_holds_168 ca, k_L_holds_170 ca, k_L_holds_172 ca, k_L_holds_174 ca, k_L_holds_177 ca, k_L_holds_179 ca, k_L_holds_182 ca, k_L_holds_184 ca, k_L_holds_185 ca, k_L_holds_186 ca, k_L_holds_187 ca, k_L_holds_190 ca, k_L_holds_193 ca, k_L_holds_196 ca, k_L_holds_198 ca, k_L_holds_199 ca, k_L_holds_200 ca, k_L_holds_201 ca, k_L_holds_204 ca, k_L_holds_207 ca, k_L_holds_208 ca, k_L_holds_211 ca, k_L_holds_212 ca, k_L_holds_214 ca, k_L_holds_215 ca, k_L_holds_216 ca, k_L_holds_217 ca, k_L_holds_220 ca, k_L_holds_222 ca, k_L_holds_225 ca, k_L_holds_226 ca, k_L_holds_227 ca, k_L_holds_228 ca, k_L_holds_231 ca, k_L_holds_233 ca, k_L_holds_236 ca, k_L_holds_237 ca, k_L_holds_238 ca, k_L_holds_239 ca, k_L_holds_242 ca, k_L_holds_244 ca, k_L_holds_246 ca, k_L_holds_249 ca, k_L_holds_250 ca, k_L_holds_251 ca, k_L_holds_254 ca, k_L_holds_255 ca, k_L_holds_256 ca, k_L_holds_258 ca, k_L_holds_261 ca, k_L_holds_262 ca, k_L_holds_263 ca, k_L_holds_264 ca, k_L_holds_267 ca, k_L_holds_270 ca, k_L_holds_271 ca, k_L_holds_272 ca, k_L_holds_273 ca, k_L_holds_276 ca, k_L_holds_277 ca, k_L_holds_278 ca, k_L_holds_279 ca, k_L_holds_282 ca, k_L_holds_285 ca, k_L_holds_286 ca, k_L_holds_287 ca, k_L_holds_289 ca, k_L_holds_292 ca, k_L_holds_293 ca, k_L_holds_296 ca, k_L_holds_297 ca, k_L_holds_298 ca, k_L_holds_300 ca, k_L_holds_303 ca, k_L_holds_304 ca, k_L_holds_307 ca, k_L_holds_308 ca, k_L_holds_311 ca, k_L_holds_312 ca, k_L_holds_313 ca, k_L_holds_314 ca, k_L_holds_316 ca, k_L_holds_319 ca, k_L_holds_320 ca, k_L_holds_321 ca, k_L_holds_323 ca, k_L_holds_326 ca, k_L_holds_329 ca, k_L_holds_330 ca, k_L_holds_333 ca, k_L_holds_334 ca, k_L_holds_337 ca, k_L_holds_338 ca, k_L_holds_341 ca, k_L_holds_342 ca, k_L_holds_344 ca, k_L_holds_346 ca, k_L_holds_349 ca, k_L_holds_352 ca, k_L_holds_354 ca, k_L_holds_357 ca, k_L_holds_360 ca, k_L_holds_361 ca, k_L_holds_362 ca, k_L_holds_365 ca, k_L_holds_368 ca, k_L_holds_369 ca, k_L_holds_370 ca, k_L_holds_371 ca, k_L_holds_374 ca, k_L_holds_376 ca, k_L_holds_379 ca, k_L_holds_382 ca, k_L_holds_383 ca, k_L_holds_384 ca, k_L_holds_386 ca, k_L_holds_389 ca, k_L_holds_390 ca, k_L_holds_391 ca, k_L_holds_392 ca, k_L_holds_395 ca, k_L_holds_398 ca, k_L_holds_399 ca, k_L_holds_400 ca, k_L_holds_401 ca, k_L_holds_404 ca, k_L_holds_405 ca, k_L_holds_406 ca, k_L_holds_409 ca, k_L_holds_412 ca, k_L_holds_413 ca, k_L_holds_416 ca, k_L_holds_417 ca, k_L_holds_419 ca, k_L_holds_421 ca, k_L_holds_424 ca, k_L_holds_426 ca, k_L_holds_429 ca, k_L_holds_431 ca, k_L_holds_434 ca, k_L_holds_435 ca, k_L_holds_436 ca, k_L_holds_439 ca, k_L_holds_442 ca, k_L_holds_443 ca, k_L_holds_444 ca, k_L_holds_445 ca, k_L_holds_448 ca, k_L_holds_451 ca, k_L_holds_452 ca, k_L_holds_453 ca, k_L_holds_456 ca, k_L_holds_458 ca, k_L_holds_461 ca, k_L_holds_462 ca, k_L_holds_465 ca, k_L_holds_466 ca, k_L_holds_467 ca, k_L_holds_468 ca, k_L_holds_471 ca, k_L_holds_473 ca, k_L_holds_476 ca, k_L_holds_477 ca, k_L_holds_480 ca, k_L_holds_481 ca, k_L_holds_484 ca, k_L_holds_485 ca, k_L_holds_488 ca, k_L_holds_489 ca, c7, H, cl, ch, sq_count, sq_roomOf, ct0, q9, e4, e5, e6, ce', a_1]
      try clear hF hF0 F
      exact nx _ _ _ _ _ _ _ _ _
    · rw [if_neg q9] at e5 e6
      have cg : ¬ s (111 + 7 * k) < s (112 + 7 * k) := Int32.not_lt.mpr (E.2.1 q9 k hk)
      refine goN go (stp [4]) 160 _ _ _ _ _ _ (fun F hF hF0 => ?_)
      simp only [hF, hF0, ite_not, i_push, i_iload, i_lload, i_aload, i_istore, i_astore, i_lstore, i_iinc, i_bin, i_dv, i_un, i_lbin, i_lsh, i_i2l, i_l2i, i_lcmp, i_dup, i_dup2, i_pop, i_if, i_icmp, i_goto, swG, i_sw, i_getf, i_puti, i_putz, i_putr, i_ald, i_lald, i_aald, i_ast, i_last, i_aast, i_alen, i_new, i_newi, i_newl, i_newq, i_oinit, i_ret, i_zret, i_lret, i_vret, catS, tk, rpush, isO, i_m1, i_m2, i_acopy, i_callV, i_callS, KRet, lget, lput, lputL, lcl0, isL, lv0, List.map_cons, List.map_nil, List.length_cons, List.length_nil, List.cons_append, List.nil_append, Nat.reduceAdd, Nat.reduceSub, Nat.reduceLeDiff, List.replicate_succ, List.replicate_zero, List.getElem?_cons_succ, List.getElem?_cons_zero, List.set_cons_succ, List.set_cons_zero, true_and, and_true, if_true, if_false, ↓reduceIte, Nat.le_refl, Value.category, va_up_app, eq_self, stp, Nat.reduceBEq, Bool.or_false, Bool.false_or, Bool.true_or, Bool.or_true, or_true, true_or, bx_uu, implies_true, true_implies, not_true, not_false_eq_true, false_implies, and_self, Nat.reduceLT, Int32.reduceAdd, Int32.reduceSub, Int32.reduceMul, Int32.reduceLE, Int32.reduceLT, Int32.reduceToNatClampNeg, va_rf_some, Bool.false_eq_true, k_L_holds_0 ca, k_L_holds_1 ca, k_L_holds_2 ca, k_L_holds_3 ca, k_L_holds_4 ca, k_L_holds_5 ca, k_L_holds_6 ca, k_L_holds_9 ca, k_L_holds_10 ca, k_L_holds_12 ca, k_L_holds_13 ca, k_L_holds_15 ca, k_L_holds_16 ca, k_L_holds_17 ca, k_L_holds_18 ca, k_L_holds_21 ca, k_L_holds_23 ca, k_L_holds_24 ca, k_L_holds_26 ca, k_L_holds_28 ca, k_L_holds_29 ca, k_L_holds_30 ca, k_L_holds_31 ca, k_L_holds_34 ca, k_L_holds_37 ca, k_L_holds_39 ca, k_L_holds_40 ca, k_L_holds_41 ca, k_L_holds_43 ca, k_L_holds_44 ca, k_L_holds_47 ca, k_L_holds_48 ca, k_L_holds_50 ca, k_L_holds_52 ca, k_L_holds_53 ca, k_L_holds_54 ca, k_L_holds_56 ca, k_L_holds_57 ca, k_L_holds_60 ca, k_L_holds_61 ca, k_L_holds_63 ca, k_L_holds_64 ca, k_L_holds_65 ca, k_L_holds_67 ca, k_L_holds_68 ca, k_L_holds_71 ca, k_L_holds_72 ca, k_L_holds_73 ca, k_L_holds_75 ca, k_L_holds_76 ca, k_L_holds_79 ca, k_L_holds_80 ca, k_L_holds_82 ca, k_L_holds_83 ca, k_L_holds_84 ca, k_L_holds_86 ca, k_L_holds_87 ca, k_L_holds_90 ca, k_L_holds_91 ca, k_L_holds_94 ca, k_L_holds_95 ca, k_L_holds_97 ca, k_L_holds_98 ca, k_L_holds_99 ca, k_L_holds_101 ca, k_L_holds_102 ca, k_L_holds_105 ca, k_L_holds_106 ca, k_L_holds_109 ca, k_L_holds_110 ca, k_L_holds_111 ca, k_L_holds_114 ca, k_L_holds_115 ca, k_L_holds_116 ca, k_L_holds_119 ca, k_L_holds_122 ca, k_L_holds_123 ca, k_L_holds_124 ca, k_L_holds_125 ca, k_L_holds_127 ca, k_L_holds_130 ca, k_L_holds_131 ca, k_L_holds_132 ca, k_L_holds_133 ca, k_L_holds_134 ca, k_L_holds_135 ca, k_L_holds_136 ca, k_L_holds_139 ca, k_L_holds_141 ca, k_L_holds_142 ca, k_L_holds_143 ca, k_L_holds_145 ca, k_L_holds_148 ca, k_L_holds_150 ca, k_L_holds_152 ca, k_L_holds_154 ca, k_L_holds_157 ca, k_L_holds_158 ca, k_L_holds_161 ca, k_L_holds_162 ca, k_L_holds_163 ca, k_L_holds_165 ca, k_L_holds_168 ca, k_L_holds_170 ca, k_L_holds_172 ca, k_L_holds_174 ca, k_L_holds_177 ca, k_L_holds_179 ca, k_L_holds_182 ca, k_L_holds_184 ca, k_L_holds_185 ca, k_L_holds_186 ca, k_L_holds_187 ca, k_L_holds_190 ca, k_L_holds_193 ca, k_L_holds_196 ca, k_L_holds_198 ca, k_L_holds_199 ca, k_L_holds_200 ca, k_L_holds_201 ca, k_L_holds_204 ca, k_L_holds_207 ca, k_L_holds_208 ca, k_L_holds_211 ca, k_L_holds_212 ca, k_L_holds_214 ca, k_L_holds_215 ca, k_L_holds_216 ca, k_L_holds_217 ca, k_L_holds_220 ca, k_L_holds_222 ca, k_L_holds_225 ca, k_L_holds_226 ca, k_L_holds_227 ca, k_L_holds_228 ca, k_L_holds_231 ca, k_L_holds_233 ca, k_L_holds_236 ca, k_L_holds_237 ca, k_L_holds_238 ca, k_L_holds_239 ca, k_L_holds_242 ca, k_L_holds_244 ca, k_L_holds_246 ca, k_L_holds_249 ca, k_L_holds_250 ca, k_L_holds_251 ca, k_L_holds_254 ca, k_L_holds_255 ca, k_L_holds_256 ca, k_L_holds_258 ca, k_L_holds_261 ca, k_L_holds_262 ca, k_L_holds_263 ca, k_L_holds_264 ca, k_L_holds_267 ca, k_L_holds_270 ca, k_L_holds_271 ca, k_L_holds_272 ca, k_L_holds_273 ca, k_L_holds_276 ca, k_L_holds_277 ca, k_L_holds_278 ca, k_L_holds_279 ca, k_L_holds_282 ca, k_L_holds_285 ca, k_L_holds_286 ca, k_L_holds_287 ca, k_L_holds_289 ca, k_L_holds_292 ca, k_L_holds_293 ca, k_L_holds_296 ca, k_L_holds_297 ca, k_L_holds_298 ca, k_L_holds_300 ca, k_L_holds_303 ca, k_L_holds_304 ca, k_L_holds_307 ca, k_L_holds_308 ca, k_L_holds_311 ca, k_L_holds_312 ca, k_L_holds_313 ca, k_L_holds_314 ca, k_L_holds_316 ca, k_L_holds_319 ca, k_L_holds_320 ca, k_L_holds_321 ca, k_L_holds_323 ca, k_L_holds_326 ca, k_L_holds_329 ca, k_L_holds_330 ca, k_L_holds_333 ca, k_L_holds_334 ca, k_L_holds_337 ca, k_L_holds_338 ca, k_L_holds_341 ca, k_L_holds_342 ca, k_L_holds_344 ca, k_L_holds_346 ca, k_L_holds_349 ca, k_L_holds_352 ca, k_L_holds_354 ca, k_L_holds_357 ca, k_L_holds_360 ca, k_L_holds_361 ca, k_L_holds_362 ca, k_L_holds_365 ca, k_L_holds_368 ca, k_L_holds_369 ca, k_L_holds_370 ca, k_L_holds_371 ca, k_L_holds_374 ca, k_L_holds_376 ca, k_L_holds_379 ca, k_L_holds_382 ca, k_L_holds_383 ca, k_L_holds_384 ca, k_L_holds_386 ca, k_L_holds_389 ca, k_L_holds_390 ca, k_L_holds_391 ca, k_L_holds_392 ca, k_L_holds_395 ca, k_L_holds_398 ca, k_L_holds_399 ca, k_L_holds_400 ca, k_L_holds_401 ca, k_L_holds_404 ca, k_L_holds_405 ca, k_L_holds_406 ca, k_L_holds_409 ca, k_L_holds_412 ca, k_L_holds_413 ca, k_L_holds_416 ca, k_L_holds_417 ca, k_L_holds_419 ca, k_L_holds_421 ca, k_L_holds_424 ca, k_L_holds_426 ca, k_L_holds_429 ca, k_L_holds_431 ca, k_L_holds_434 ca, k_L_holds_435 ca, k_L_holds_436 ca, k_L_holds_439 ca, k_L_holds_442 ca, k_L_holds_443 ca, k_L_holds_444 ca, k_L_holds_445 ca, k_L_holds_448 ca, k_L_holds_451 ca, k_L_holds_452 ca, k_L_holds_453 ca, k_L_holds_456 ca, k_L_holds_458 ca, k_L_holds_461 ca, k_L_holds_462 ca, k_L_holds_465 ca, k_L_holds_466 ca, k_L_holds_467 ca, k_L_holds_468 ca, k_L_holds_471 ca, k_L_holds_473 ca, k_L_holds_476 ca, k_L_holds_477 ca, k_L_holds_480 ca, k_L_holds_481 ca, k_L_holds_484 ca, k_L_holds_485 ca, k_L_holds_488 ca, k_L_holds_489 ca, c7, H, cl, ch, sq_count, sq_roomOf, ct0, q9, e4, e5, e6, ce, cg, a_1]
      try clear hF hF0 F
      exact nx _ _ _ _ _ _ _ _ _
  have isall : ∀ k, k < 3 → ∀ (sn bk at' it : Int32), (∀ m4 m5 m6 m7 m8 m9 m10 m11 m12, K 0 0 4 [some (.ref (g 0)), some (.int x), some (.int sn), some (.int (nI (k + 1))), m4, m5, m6, m7, m8, m9, m10, m11, m12] [] h) → ∀ m11 m12, K 0 0 214 [some (.ref (g 0)), some (.int x), some (.int sn), some (.int (nI k)), some (.int (aStripOf s (nI k) 1)), some (.int (aStripOf s (nI k) 2)), some (.int (s (106 + 7 * k))), some (.int bk), some (.int at'), some (.int it), some (.int 1), m11, m12] [] h := by
    intro k hk sn bk at' it nx m11 m12
    have k0 := rooms k hk sn bk (aStripOf s (nI k) 1) at' (aStripOf s (nI k) 2) it 0 0 nx
    have eb : aBend s (nI k) (s (106 + 7 * k)) = aStripOf s (nI k) 3 := by rw [bn_g hk (W.wm hk), st3 hk]
    have e3 : aStripOf s (nI k) 3 = aStripOf s (nI k) 2 * (s (106 + 7 * k) - 200) := by rw [st2 hk, st3 hk]
    have cl : ¬ aStripOf s (nI k) 5 ≤ aStripOf s (nI k) 4 := by rw [st4 hk, st5 hk]; exact Int32.not_le.mpr (E.1 k hk)
    have c5 : ¬ 5 < aStripOf s (nI k) 8 := by
      rw [st8 hk]
      have z := isIn_z.mp (W.S hk (i := 5) (by decide))
      have b : ((rgS 5).2).toInt = 5 := rfl
      rw [b, show 10 + 32 * k + 5 = 15 + 32 * k by omega] at z
      rw [Int32.lt_iff_toInt_lt]
      have c : (5 : Int32).toInt = 5 := rfl
      omega
    have q := closd_q (W.ki hk) (W.si hk)
    rw [← st11 (s := s) hk, ← st7 (s := s) hk, ← st10 (s := s) hk] at q
    rcases q with ⟨q1, q2⟩ | ⟨q1, q2⟩
    · refine goN go (stp [344]) 160 _ _ _ _ _ _ (fun F hF hF0 => ?_)
      simp only [hF, hF0, ite_not, i_push, i_iload, i_lload, i_aload, i_istore, i_astore, i_lstore, i_iinc, i_bin, i_dv, i_un, i_lbin, i_lsh, i_i2l, i_l2i, i_lcmp, i_dup, i_dup2, i_pop, i_if, i_icmp, i_goto, swG, i_sw, i_getf, i_puti, i_putz, i_putr, i_ald, i_lald, i_aald, i_ast, i_last, i_aast, i_alen, i_new, i_newi, i_newl, i_newq, i_oinit, i_ret, i_zret, i_lret, i_vret, catS, tk, rpush, isO, i_m1, i_m2, i_acopy, i_callV, i_callS, KRet, lget, lput, lputL, lcl0, isL, lv0, List.map_cons, List.map_nil, List.length_cons, List.length_nil, List.cons_append, List.nil_append, Nat.reduceAdd, Nat.reduceSub, Nat.reduceLeDiff, List.replicate_succ, List.replicate_zero, List.getElem?_cons_succ, List.getElem?_cons_zero, List.set_cons_succ, List.set_cons_zero, true_and, and_true, if_true, if_false, ↓reduceIte, Nat.le_refl, Value.category, va_up_app, eq_self, stp, Nat.reduceBEq, Bool.or_false, Bool.false_or, Bool.true_or, Bool.or_true, or_true, true_or, bx_uu, implies_true, true_implies, not_true, not_false_eq_true, false_implies, and_self, Nat.reduceLT, Int32.reduceAdd, Int32.reduceSub, Int32.reduceMul, Int32.reduceLE, Int32.reduceLT, Int32.reduceToNatClampNeg, va_rf_some, Bool.false_eq_true, k_L_holds_0 ca, k_L_holds_1 ca, k_L_holds_2 ca, k_L_holds_3 ca, k_L_holds_4 ca, k_L_holds_5 ca, k_L_holds_6 ca, k_L_holds_9 ca, k_L_holds_10 ca, k_L_holds_12 ca, k_L_holds_13 ca, k_L_holds_15 ca, k_L_holds_16 ca, k_L_holds_17 ca, k_L_holds_18 ca, k_L_holds_21 ca, k_L_holds_23 ca, k_L_holds_24 ca, k_L_holds_26 ca, k_L_holds_28 ca, k_L_holds_29 ca, k_L_holds_30 ca, k_L_holds_31 ca, k_L_holds_34 ca, k_L_holds_37 ca, k_L_holds_39 ca, k_L_holds_40 ca, k_L_holds_41 ca, k_L_holds_43 ca, k_L_holds_44 ca, k_L_holds_47 ca, k_L_holds_48 ca, k_L_holds_50 ca, k_L_holds_52 ca, k_L_holds_53 ca, k_L_holds_54 ca, k_L_holds_56 ca, k_L_holds_57 ca, k_L_holds_60 ca, k_L_holds_61 ca, k_L_holds_63 ca, k_L_holds_64 ca, k_L_holds_65 ca, k_L_holds_67 ca, k_L_holds_68 ca, k_L_holds_71 ca, k_L_holds_72 ca, k_L_holds_73 ca, k_L_holds_75 ca, k_L_holds_76 ca, k_L_holds_79 ca, k_L_holds_80 ca, k_L_holds_82 ca, k_L_holds_83 ca, k_L_holds_84 ca, k_L_holds_86 ca, k_L_holds_87 ca, k_L_holds_90 ca, k_L_holds_91 ca, k_L_holds_94 ca, k_L_holds_95 ca, k_L_holds_97 ca, k_L_holds_98 ca, k_L_holds_99 ca, k_L_holds_101 ca, k_L_holds_102 ca, k_L_holds_105 ca, k_L_holds_106 ca, k_L_holds_109 ca, k_L_holds_110 ca, k_L_holds_111 ca, k_L_holds_114 ca, k_L_holds_115 ca, k_L_holds_116 ca, k_L_holds_119 ca, k_L_holds_122 ca, k_L_holds_123 ca, k_L_holds_124 ca, k_L_holds_125 ca, k_L_holds_127 ca, k_L_holds_130 ca, k_L_holds_131 ca, k_L_holds_132 ca, k_L_holds_133 ca, k_L_holds_134 ca, k_L_holds_135 ca, k_L_holds_136 ca, k_L_holds_139 ca, k_L_holds_141 ca, k_L_holds_142 ca, k_L_holds_143 ca, k_L_holds_145 ca, k_L_holds_148 ca, k_L_holds_150 ca, k_L_holds_152 ca, k_L_holds_154 ca, k_L_holds_157 ca, k_L_holds_158 ca, k_L_holds_161 ca, k_L_holds_162 ca, k_L_holds_163 ca, k_L_holds_165 ca, k_L_holds_168 ca, k_L_holds_170 ca, k_L_holds_172 ca, k_L_holds_174 ca, k_L_holds_177 ca, k_L_holds_179 ca, k_L_holds_182 ca, k_L_holds_184 ca, k_L_holds_185 ca, k_L_holds_186 ca, k_L_holds_187 ca, k_L_holds_190 ca, k_L_holds_193 ca, k_L_holds_196 ca, k_L_holds_198 ca, k_L_holds_199 ca, k_L_holds_200 ca, k_L_holds_201 ca, k_L_holds_204 ca, k_L_holds_207 ca, k_L_holds_208 ca, k_L_holds_211 ca, k_L_holds_212 ca, k_L_holds_214 ca, k_L_holds_215 ca, k_L_holds_216 ca, k_L_holds_217 ca, k_L_holds_220 ca, k_L_holds_222 ca, k_L_holds_225 ca, k_L_holds_226 ca, k_L_holds_227 ca, k_L_holds_228 ca, k_L_holds_231 ca, k_L_holds_233 ca, k_L_holds_236 ca, k_L_holds_237 ca, k_L_holds_238 ca, k_L_holds_239 ca, k_L_holds_242 ca, k_L_holds_244 ca, k_L_holds_246 ca, k_L_holds_249 ca, k_L_holds_250 ca, k_L_holds_251 ca, k_L_holds_254 ca, k_L_holds_255 ca, k_L_holds_256 ca, k_L_holds_258 ca, k_L_holds_261 ca, k_L_holds_262 ca, k_L_holds_263 ca, k_L_holds_264 ca, k_L_holds_267 ca, k_L_holds_270 ca, k_L_holds_271 ca, k_L_holds_272 ca, k_L_holds_273 ca, k_L_holds_276 ca, k_L_holds_277 ca, k_L_holds_278 ca, k_L_holds_279 ca, k_L_holds_282 ca, k_L_holds_285 ca, k_L_holds_286 ca, k_L_holds_287 ca, k_L_holds_289 ca, k_L_holds_292 ca, k_L_holds_293 ca, k_L_holds_296 ca, k_L_holds_297 ca, k_L_holds_298 ca, k_L_holds_300 ca, k_L_holds_303 ca, k_L_holds_304 ca, k_L_holds_307 ca, k_L_holds_308 ca, k_L_holds_311 ca, k_L_holds_312 ca, k_L_holds_313 ca, k_L_holds_314 ca, k_L_holds_316 ca, k_L_holds_319 ca, k_L_holds_320 ca, k_L_holds_321 ca, k_L_holds_323 ca, k_L_holds_326 ca, k_L_holds_329 ca, k_L_holds_330 ca, k_L_holds_333 ca, k_L_holds_334 ca, k_L_holds_337 ca, k_L_holds_338 ca, k_L_holds_341 ca, k_L_holds_342 ca, k_L_holds_344 ca, k_L_holds_346 ca, k_L_holds_349 ca, k_L_holds_352 ca, k_L_holds_354 ca, k_L_holds_357 ca, k_L_holds_360 ca, k_L_holds_361 ca, k_L_holds_362 ca, k_L_holds_365 ca, k_L_holds_368 ca, k_L_holds_369 ca, k_L_holds_370 ca, k_L_holds_371 ca, k_L_holds_374 ca, k_L_holds_376 ca, k_L_holds_379 ca, k_L_holds_382 ca, k_L_holds_383 ca, k_L_holds_384 ca, k_L_holds_386 ca, k_L_holds_389 ca, k_L_holds_390 ca, k_L_holds_391 ca, k_L_holds_392 ca, k_L_holds_395 ca, k_L_holds_398 ca, k_L_holds_399 ca, k_L_holds_400 ca, k_L_holds_401 ca, k_L_holds_404 ca, k_L_holds_405 ca, k_L_holds_406 ca, k_L_holds_409 ca, k_L_holds_412 ca, k_L_holds_413 ca, k_L_holds_416 ca, k_L_holds_417 ca, k_L_holds_419 ca, k_L_holds_421 ca, k_L_holds_424 ca, k_L_holds_426 ca, k_L_holds_429 ca, k_L_holds_431 ca, k_L_holds_434 ca, k_L_holds_435 ca, k_L_holds_436 ca, k_L_holds_439 ca, k_L_holds_442 ca, k_L_holds_443 ca, k_L_holds_444 ca, k_L_holds_445 ca, k_L_holds_448 ca, k_L_holds_451 ca, k_L_holds_452 ca, k_L_holds_453 ca, k_L_holds_456 ca, k_L_holds_458 ca, k_L_holds_461 ca, k_L_holds_462 ca, k_L_holds_465 ca, k_L_holds_466 ca, k_L_holds_467 ca, k_L_holds_468 ca, k_L_holds_471 ca, k_L_holds_473 ca, k_L_holds_476 ca, k_L_holds_477 ca, k_L_holds_480 ca, k_L_holds_481 ca, k_L_holds_484 ca, k_L_holds_485 ca, k_L_holds_488 ca, k_L_holds_489 ca, c7, H, sq_stripOf, sq_bend, eb, e3, cl, c5, q1, q2]
      try clear hF hF0 F
      exact k0 _
    · refine goN go (stp [344]) 160 _ _ _ _ _ _ (fun F hF hF0 => ?_)
      simp only [hF, hF0, ite_not, i_push, i_iload, i_lload, i_aload, i_istore, i_astore, i_lstore, i_iinc, i_bin, i_dv, i_un, i_lbin, i_lsh, i_i2l, i_l2i, i_lcmp, i_dup, i_dup2, i_pop, i_if, i_icmp, i_goto, swG, i_sw, i_getf, i_puti, i_putz, i_putr, i_ald, i_lald, i_aald, i_ast, i_last, i_aast, i_alen, i_new, i_newi, i_newl, i_newq, i_oinit, i_ret, i_zret, i_lret, i_vret, catS, tk, rpush, isO, i_m1, i_m2, i_acopy, i_callV, i_callS, KRet, lget, lput, lputL, lcl0, isL, lv0, List.map_cons, List.map_nil, List.length_cons, List.length_nil, List.cons_append, List.nil_append, Nat.reduceAdd, Nat.reduceSub, Nat.reduceLeDiff, List.replicate_succ, List.replicate_zero, List.getElem?_cons_succ, List.getElem?_cons_zero, List.set_cons_succ, List.set_cons_zero, true_and, and_true, if_true, if_false, ↓reduceIte, Nat.le_refl, Value.category, va_up_app, eq_self, stp, Nat.reduceBEq, Bool.or_false, Bool.false_or, Bool.true_or, Bool.or_true, or_true, true_or, bx_uu, implies_true, true_implies, not_true, not_false_eq_true, false_implies, and_self, Nat.reduceLT, Int32.reduceAdd, Int32.reduceSub, Int32.reduceMul, Int32.reduceLE, Int32.reduceLT, Int32.reduceToNatClampNeg, va_rf_some, Bool.false_eq_true, k_L_holds_0 ca, k_L_holds_1 ca, k_L_holds_2 ca, k_L_holds_3 ca, k_L_holds_4 ca, k_L_holds_5 ca, k_L_holds_6 ca, k_L_holds_9 ca, k_L_holds_10 ca, k_L_holds_12 ca, k_L_holds_13 ca, k_L_holds_15 ca, k_L_holds_16 ca, k_L_holds_17 ca, k_L_holds_18 ca, k_L_holds_21 ca, k_L_holds_23 ca, k_L_holds_24 ca, k_L_holds_26 ca, k_L_holds_28 ca, k_L_holds_29 ca, k_L_holds_30 ca, k_L_holds_31 ca, k_L_holds_34 ca, k_L_holds_37 ca, k_L_holds_39 ca, k_L_holds_40 ca, k_L_holds_41 ca, k_L_holds_43 ca, k_L_holds_44 ca, k_L_holds_47 ca, k_L_holds_48 ca, k_L_holds_50 ca, k_L_holds_52 ca, k_L_holds_53 ca, k_L_holds_54 ca, k_L_holds_56 ca, k_L_holds_57 ca, k_L_holds_60 ca, k_L_holds_61 ca, k_L_holds_63 ca, k_L_holds_64 ca, k_L_holds_65 ca, k_L_holds_67 ca, k_L_holds_68 ca, k_L_holds_71 ca, k_L_holds_72 ca, k_L_holds_73 ca, k_L_holds_75 ca, k_L_holds_76 ca, k_L_holds_79 ca, k_L_holds_80 ca, k_L_holds_82 ca, k_L_holds_83 ca, k_L_holds_84 ca, k_L_holds_86 ca, k_L_holds_87 ca, k_L_holds_90 ca, k_L_holds_91 ca, k_L_holds_94 ca, k_L_holds_95 ca, k_L_holds_97 ca, k_L_holds_98 ca, k_L_holds_99 ca, k_L_holds_101 ca, k_L_holds_102 ca, k_L_holds_105 ca, k_L_holds_106 ca, k_L_holds_109 ca, k_L_holds_110 ca, k_L_holds_111 ca, k_L_holds_114 ca, k_L_holds_115 ca, k_L_holds_116 ca, k_L_holds_119 ca, k_L_holds_122 ca, k_L_holds_123 ca, k_L_holds_124 ca, k_L_holds_125 ca, k_L_holds_127 ca, k_L_holds_130 ca, k_L_holds_131 ca, k_L_holds_132 ca, k_L_holds_133 ca, k_L_holds_134 ca, k_L_holds_135 ca, k_L_holds_136 ca, k_L_holds_139 ca, k_L_holds_141 ca, k_L_holds_142 ca, k_L_holds_143 ca, k_L_holds_145 ca, k_L_holds_148 ca, k_L_holds_150 ca, k_L_holds_152 ca, k_L_holds_154 ca, k_L_holds_157 ca, k_L_holds_158 ca, k_L_holds_161 ca, k_L_holds_162 ca, k_L_holds_163 ca, k_L_holds_165 ca, k_L_holds_168 ca, k_L_holds_170 ca, k_L_holds_172 ca, k_L_holds_174 ca, k_L_holds_177 ca, k_L_holds_179 ca, k_L_holds_182 ca, k_L_holds_184 ca, k_L_holds_185 ca, k_L_holds_186 ca, k_L_holds_187 ca, k_L_holds_190 ca, k_L_holds_193 ca, k_L_holds_196 ca, k_L_holds_198 ca, k_L_holds_199 ca, k_L_holds_200 ca, k_L_holds_201 ca, k_L_holds_204 ca, k_L_holds_207 ca, k_L_holds_208 ca, k_L_holds_211 ca, k_L_holds_212 ca, k_L_holds_214 ca, k_L_holds_215 ca, k_L_holds_216 ca, k_L_holds_217 ca, k_L_holds_220 ca, k_L_holds_222 ca, k_L_holds_225 ca, k_L_holds_226 ca, k_L_holds_227 ca, k_L_holds_228 ca, k_L_holds_231 ca, k_L_holds_233 ca, k_L_holds_236 ca, k_L_holds_237 ca, k_L_holds_238 ca, k_L_holds_239 ca, k_L_holds_242 ca, k_L_holds_244 ca, k_L_holds_246 ca, k_L_holds_249 ca, k_L_holds_250 ca, k_L_holds_251 ca, k_L_holds_254 ca, k_L_holds_255 ca, k_L_holds_256 ca, k_L_holds_258 ca, k_L_holds_261 ca, k_L_holds_262 ca, k_L_holds_263 ca, k_L_holds_264 ca, k_L_holds_267 ca, k_L_holds_270 ca, k_L_holds_271 ca, k_L_holds_272 ca, k_L_holds_273 ca, k_L_holds_276 ca, k_L_holds_277 ca, k_L_holds_278 ca, k_L_holds_279 ca, k_L_holds_282 ca, k_L_holds_285 ca, k_L_holds_286 ca, k_L_holds_287 ca, k_L_holds_289 ca, k_L_holds_292 ca, k_L_holds_293 ca, k_L_holds_296 ca, k_L_holds_297 ca, k_L_holds_298 ca, k_L_holds_300 ca, k_L_holds_303 ca, k_L_holds_304 ca, k_L_holds_307 ca, k_L_holds_308 ca, k_L_holds_311 ca, k_L_holds_312 ca, k_L_holds_313 ca, k_L_holds_314 ca, k_L_holds_316 ca, k_L_holds_319 ca, k_L_holds_320 ca, k_L_holds_321 ca, k_L_holds_323 ca, k_L_holds_326 ca, k_L_holds_329 ca, k_L_holds_330 ca, k_L_holds_333 ca, k_L_holds_334 ca, k_L_holds_337 ca, k_L_holds_338 ca, k_L_holds_341 ca, k_L_holds_342 ca, k_L_holds_344 ca, k_L_holds_346 ca, k_L_holds_349 ca, k_L_holds_352 ca, k_L_holds_354 ca, k_L_holds_357 ca, k_L_holds_360 ca, k_L_holds_361 ca, k_L_holds_362 ca, k_L_holds_365 ca, k_L_holds_368 ca, k_L_holds_369 ca, k_L_holds_370 ca, k_L_holds_371 ca, k_L_holds_374 ca, k_L_holds_376 ca, k_L_holds_379 ca, k_L_holds_382 ca, k_L_holds_383 ca, k_L_holds_384 ca, k_L_holds_386 ca, k_L_holds_389 ca, k_L_holds_390 ca, k_L_holds_391 ca, k_L_holds_392 ca, k_L_holds_395 ca, k_L_holds_398 ca, k_L_holds_399 ca, k_L_holds_400 ca, k_L_holds_401 ca, k_L_holds_404 ca, k_L_holds_405 ca, k_L_holds_406 ca, k_L_holds_409 ca, k_L_holds_412 ca, k_L_holds_413 ca, k_L_holds_416 ca, k_L_holds_417 ca, k_L_holds_419 ca, k_L_holds_421 ca, k_L_holds_424 ca, k_L_holds_426 ca, k_L_holds_429 ca, k_L_holds_431 ca, k_L_holds_434 ca, k_L_holds_435 ca, k_L_holds_436 ca, k_L_holds_439 ca, k_L_holds_442 ca, k_L_holds_443 ca, k_L_holds_444 ca, k_L_holds_445 ca, k_L_holds_448 ca, k_L_holds_451 ca, k_L_holds_452 ca, k_L_holds_453 ca, k_L_holds_456 ca, k_L_holds_458 ca, k_L_holds_461 ca, k_L_holds_462 ca, k_L_holds_465 ca, k_L_holds_466 ca, k_L_holds_467 ca, k_L_holds_468 ca, k_L_holds_471 ca, k_L_holds_473 ca, k_L_holds_476 ca, k_L_holds_477 ca, k_L_holds_480 ca, k_L_holds_481 ca, k_L_holds_484 ca, k_L_holds_485 ca, k_L_holds_488 ca, k_L_holds_489 ca, c7, H, sq_stripOf, sq_bend, eb, e3, cl, c5, q1, q2, one0, zero1]
      try clear hF hF0 F
      exact k0 _
  have trips : ∀ k, k < 3 → ∀ (sn : Int32) (i7 : Int32), (∀ m4 m5 m6 m7 m8 m9 m10 m11 m12, K 0 0 4 [some (.ref (g 0)), some (.int x), some (.int (sn + s (16 + 32 * k))), some (.int (nI (k + 1))), m4, m5, m6, m7, m8, m9, m10, m11, m12] [] h) → ∀ m8 m9 m10 m11 m12, K 0 0 122 [some (.ref (g 0)), some (.int x), some (.int sn), some (.int (nI k)), some (.int (aStripOf s (nI k) 1)), some (.int (aStripOf s (nI k) 2)), some (.int (s (106 + 7 * k))), some (.int i7), m8, m9, m10, m11, m12] [] h := by
    intro k hk sn i7 nx m8 m9 m10 m11 m12
    have k0 := fun bk at' it => isall k hk (sn + s (16 + 32 * k)) bk at' it nx
    have e9 := st9 (s := s) hk
    rcases low2 (x >>> (nI k &&& 31)) with q | q
    · rcases W.trU hk with t | ⟨t1, t2⟩
      · refine goN go (stp [214]) 160 _ _ _ _ _ _ (fun F hF hF0 => ?_)
        simp only [hF, hF0, ite_not, i_push, i_iload, i_lload, i_aload, i_istore, i_astore, i_lstore, i_iinc, i_bin, i_dv, i_un, i_lbin, i_lsh, i_i2l, i_l2i, i_lcmp, i_dup, i_dup2, i_pop, i_if, i_icmp, i_goto, swG, i_sw, i_getf, i_puti, i_putz, i_putr, i_ald, i_lald, i_aald, i_ast, i_last, i_aast, i_alen, i_new, i_newi, i_newl, i_newq, i_oinit, i_ret, i_zret, i_lret, i_vret, catS, tk, rpush, isO, i_m1, i_m2, i_acopy, i_callV, i_callS, KRet, lget, lput, lputL, lcl0, isL, lv0, List.map_cons, List.map_nil, List.length_cons, List.length_nil, List.cons_append, List.nil_append, Nat.reduceAdd, Nat.reduceSub, Nat.reduceLeDiff, List.replicate_succ, List.replicate_zero, List.getElem?_cons_succ, List.getElem?_cons_zero, List.set_cons_succ, List.set_cons_zero, true_and, and_true, if_true, if_false, ↓reduceIte, Nat.le_refl, Value.category, va_up_app, eq_self, stp, Nat.reduceBEq, Bool.or_false, Bool.false_or, Bool.true_or, Bool.or_true, or_true, true_or, bx_uu, implies_true, true_implies, not_true, not_false_eq_true, false_implies, and_self, Nat.reduceLT, Int32.reduceAdd, Int32.reduceSub, Int32.reduceMul, Int32.reduceLE, Int32.reduceLT, Int32.reduceToNatClampNeg, va_rf_some, Bool.false_eq_true, k_L_holds_0 ca, k_L_holds_1 ca, k_L_holds_2 ca, k_L_holds_3 ca, k_L_holds_4 ca, k_L_holds_5 ca, k_L_holds_6 ca, k_L_holds_9 ca, k_L_holds_10 ca, k_L_holds_12 ca, k_L_holds_13 ca, k_L_holds_15 ca, k_L_holds_16 ca, k_L_holds_17 ca, k_L_holds_18 ca, k_L_holds_21 ca, k_L_holds_23 ca, k_L_holds_24 ca, k_L_holds_26 ca, k_L_holds_28 ca, k_L_holds_29 ca, k_L_holds_30 ca, k_L_holds_31 ca, k_L_holds_34 ca, k_L_holds_37 ca, k_L_holds_39 ca, k_L_holds_40 ca, k_L_holds_41 ca, k_L_holds_43 ca, k_L_holds_44 ca, k_L_holds_47 ca, k_L_holds_48 ca, k_L_holds_50 ca, k_L_holds_52 ca, k_L_holds_53 ca, k_L_holds_54 ca, k_L_holds_56 ca, k_L_holds_57 ca, k_L_holds_60 ca, k_L_holds_61 ca, k_L_holds_63 ca, k_L_holds_64 ca, k_L_holds_65 ca, k_L_holds_67 ca, k_L_holds_68 ca, k_L_holds_71 ca, k_L_holds_72 ca, k_L_holds_73 ca, k_L_holds_75 ca, k_L_holds_76 ca, k_L_holds_79 ca, k_L_holds_80 ca, k_L_holds_82 ca, k_L_holds_83 ca, k_L_holds_84 ca, k_L_holds_86 ca, k_L_holds_87 ca, k_L_holds_90 ca, k_L_holds_91 ca, k_L_holds_94 ca, k_L_holds_95 ca, k_L_holds_97 ca, k_L_holds_98 ca, k_L_holds_99 ca, k_L_holds_101 ca, k_L_holds_102 ca, k_L_holds_105 ca, k_L_holds_106 ca, k_L_holds_109 ca, k_L_holds_110 ca, k_L_holds_111 ca, k_L_holds_114 ca, k_L_holds_115 ca, k_L_holds_116 ca, k_L_holds_119 ca, k_L_holds_122 ca, k_L_holds_123 ca, k_L_holds_124 ca, k_L_holds_125 ca, k_L_holds_127 ca, k_L_holds_130 ca, k_L_holds_131 ca, k_L_holds_132 ca, k_L_holds_133 ca, k_L_holds_134 ca, k_L_holds_135 ca, k_L_holds_136 ca, k_L_holds_139 ca, k_L_holds_141 ca, k_L_holds_142 ca, k_L_holds_143 ca, k_L_holds_145 ca, k_L_holds_148 ca, k_L_holds_150 ca, k_L_holds_152 ca, k_L_holds_154 ca, k_L_holds_157 ca, k_L_holds_158 ca, k_L_holds_161 ca, k_L_holds_162 ca, k_L_holds_163 ca, k_L_holds_165 ca, k_L_holds_168 ca, k_L_holds_170 ca, k_L_holds_172 ca, k_L_holds_174 ca, k_L_holds_177 ca, k_L_holds_179 ca, k_L_holds_182 ca, k_L_holds_184 ca, k_L_holds_185 ca, k_L_holds_186 ca, k_L_holds_187 ca, k_L_holds_190 ca, k_L_holds_193 ca, k_L_holds_196 ca, k_L_holds_198 ca, k_L_holds_199 ca, k_L_holds_200 ca, k_L_holds_201 ca, k_L_holds_204 ca, k_L_holds_207 ca, k_L_holds_208 ca, k_L_holds_211 ca, k_L_holds_212 ca, k_L_holds_214 ca, k_L_holds_215 ca, k_L_holds_216 ca, k_L_holds_217 ca, k_L_holds_220 ca, k_L_holds_222 ca, k_L_holds_225 ca, k_L_holds_226 ca, k_L_holds_227 ca, k_L_holds_228 ca, k_L_holds_231 ca, k_L_holds_233 ca, k_L_holds_236 ca, k_L_holds_237 ca, k_L_holds_238 ca, k_L_holds_239 ca, k_L_holds_242 ca, k_L_holds_244 ca, k_L_holds_246 ca, k_L_holds_249 ca, k_L_holds_250 ca, k_L_holds_251 ca, k_L_holds_254 ca, k_L_holds_255 ca, k_L_holds_256 ca, k_L_holds_258 ca, k_L_holds_261 ca, k_L_holds_262 ca, k_L_holds_263 ca, k_L_holds_264 ca, k_L_holds_267 ca, k_L_holds_270 ca, k_L_holds_271 ca, k_L_holds_272 ca, k_L_holds_273 ca, k_L_holds_276 ca, k_L_holds_277 ca, k_L_holds_278 ca, k_L_holds_279 ca, k_L_holds_282 ca, k_L_holds_285 ca, k_L_holds_286 ca, k_L_holds_287 ca, k_L_holds_289 ca, k_L_holds_292 ca, k_L_holds_293 ca, k_L_holds_296 ca, k_L_holds_297 ca, k_L_holds_298 ca, k_L_holds_300 ca, k_L_holds_303 ca, k_L_holds_304 ca, k_L_holds_307 ca, k_L_holds_308 ca, k_L_holds_311 ca, k_L_holds_312 ca, k_L_holds_313 ca, k_L_holds_314 ca, k_L_holds_316 ca, k_L_holds_319 ca, k_L_holds_320 ca, k_L_holds_321 ca, k_L_holds_323 ca, k_L_holds_326 ca, k_L_holds_329 ca, k_L_holds_330 ca, k_L_holds_333 ca, k_L_holds_334 ca, k_L_holds_337 ca, k_L_holds_338 ca, k_L_holds_341 ca, k_L_holds_342 ca, k_L_holds_344 ca, k_L_holds_346 ca, k_L_holds_349 ca, k_L_holds_352 ca, k_L_holds_354 ca, k_L_holds_357 ca, k_L_holds_360 ca, k_L_holds_361 ca, k_L_holds_362 ca, k_L_holds_365 ca, k_L_holds_368 ca, k_L_holds_369 ca, k_L_holds_370 ca, k_L_holds_371 ca, k_L_holds_374 ca, k_L_holds_376 ca, k_L_holds_379 ca, k_L_holds_382 ca, k_L_holds_383 ca, k_L_holds_384 ca, k_L_holds_386 ca, k_L_holds_389 ca, k_L_holds_390 ca, k_L_holds_391 ca, k_L_holds_392 ca, k_L_holds_395 ca, k_L_holds_398 ca, k_L_holds_399 ca, k_L_holds_400 ca, k_L_holds_401 ca, k_L_holds_404 ca, k_L_holds_405 ca, k_L_holds_406 ca, k_L_holds_409 ca, k_L_holds_412 ca, k_L_holds_413 ca, k_L_holds_416 ca, k_L_holds_417 ca, k_L_holds_419 ca, k_L_holds_421 ca, k_L_holds_424 ca, k_L_holds_426 ca, k_L_holds_429 ca, k_L_holds_431 ca, k_L_holds_434 ca, k_L_holds_435 ca, k_L_holds_436 ca, k_L_holds_439 ca, k_L_holds_442 ca, k_L_holds_443 ca, k_L_holds_444 ca, k_L_holds_445 ca, k_L_holds_448 ca, k_L_holds_451 ca, k_L_holds_452 ca, k_L_holds_453 ca, k_L_holds_456 ca, k_L_holds_458 ca, k_L_holds_461 ca, k_L_holds_462 ca, k_L_holds_465 ca, k_L_holds_466 ca, k_L_holds_467 ca, k_L_holds_468 ca, k_L_holds_471 ca, k_L_holds_473 ca, k_L_holds_476 ca, k_L_holds_477 ca, k_L_holds_480 ca, k_L_holds_481 ca, k_L_holds_484 ca, k_L_holds_485 ca, k_L_holds_488 ca, k_L_holds_489 ca, c7, H, sq_stripOf, sq_tripsAt, e9, sp_L_low, z2, q, t]
        try clear hF hF0 F
        exact k0 _ _ _ _ _
      · have tn : ¬ aTripC s (nI k) 0 = -10000004 := fun z => by rw [z] at t1; exact absurd t1 (by decide)
        have tb : ¬ aBend s (nI k) (aTripC s (nI k) 0) < aStripOf s (nI k) 5 := by rw [bn_g hk t1, st5 hk]; exact Int32.not_lt.mpr t2
        refine goN go (stp [214]) 160 _ _ _ _ _ _ (fun F hF hF0 => ?_)
        simp only [hF, hF0, ite_not, i_push, i_iload, i_lload, i_aload, i_istore, i_astore, i_lstore, i_iinc, i_bin, i_dv, i_un, i_lbin, i_lsh, i_i2l, i_l2i, i_lcmp, i_dup, i_dup2, i_pop, i_if, i_icmp, i_goto, swG, i_sw, i_getf, i_puti, i_putz, i_putr, i_ald, i_lald, i_aald, i_ast, i_last, i_aast, i_alen, i_new, i_newi, i_newl, i_newq, i_oinit, i_ret, i_zret, i_lret, i_vret, catS, tk, rpush, isO, i_m1, i_m2, i_acopy, i_callV, i_callS, KRet, lget, lput, lputL, lcl0, isL, lv0, List.map_cons, List.map_nil, List.length_cons, List.length_nil, List.cons_append, List.nil_append, Nat.reduceAdd, Nat.reduceSub, Nat.reduceLeDiff, List.replicate_succ, List.replicate_zero, List.getElem?_cons_succ, List.getElem?_cons_zero, List.set_cons_succ, List.set_cons_zero, true_and, and_true, if_true, if_false, ↓reduceIte, Nat.le_refl, Value.category, va_up_app, eq_self, stp, Nat.reduceBEq, Bool.or_false, Bool.false_or, Bool.true_or, Bool.or_true, or_true, true_or, bx_uu, implies_true, true_implies, not_true, not_false_eq_true, false_implies, and_self, Nat.reduceLT, Int32.reduceAdd, Int32.reduceSub, Int32.reduceMul, Int32.reduceLE, Int32.reduceLT, Int32.reduceToNatClampNeg, va_rf_some, Bool.false_eq_true, k_L_holds_0 ca, k_L_holds_1 ca, k_L_holds_2 ca, k_L_holds_3 ca, k_L_holds_4 ca, k_L_holds_5 ca, k_L_holds_6 ca, k_L_holds_9 ca, k_L_holds_10 ca, k_L_holds_12 ca, k_L_holds_13 ca, k_L_holds_15 ca, k_L_holds_16 ca, k_L_holds_17 ca, k_L_holds_18 ca, k_L_holds_21 ca, k_L_holds_23 ca, k_L_holds_24 ca, k_L_holds_26 ca, k_L_holds_28 ca, k_L_holds_29 ca, k_L_holds_30 ca, k_L_holds_31 ca, k_L_holds_34 ca, k_L_holds_37 ca, k_L_holds_39 ca, k_L_holds_40 ca, k_L_holds_41 ca, k_L_holds_43 ca, k_L_holds_44 ca, k_L_holds_47 ca, k_L_holds_48 ca, k_L_holds_50 ca, k_L_holds_52 ca, k_L_holds_53 ca, k_L_holds_54 ca, k_L_holds_56 ca, k_L_holds_57 ca, k_L_holds_60 ca, k_L_holds_61 ca, k_L_holds_63 ca, k_L_holds_64 ca, k_L_holds_65 ca, k_L_holds_67 ca, k_L_holds_68 ca, k_L_holds_71 ca, k_L_holds_72 ca, k_L_holds_73 ca, k_L_holds_75 ca, k_L_holds_76 ca, k_L_holds_79 ca, k_L_holds_80 ca, k_L_holds_82 ca, k_L_holds_83 ca, k_L_holds_84 ca, k_L_holds_86 ca, k_L_holds_87 ca, k_L_holds_90 ca, k_L_holds_91 ca, k_L_holds_94 ca, k_L_holds_95 ca, k_L_holds_97 ca, k_L_holds_98 ca, k_L_holds_99 ca, k_L_holds_101 ca, k_L_holds_102 ca, k_L_holds_105 ca, k_L_holds_106 ca, k_L_holds_109 ca, k_L_holds_110 ca, k_L_holds_111 ca, k_L_holds_114 ca, k_L_holds_115 ca, k_L_holds_116 ca, k_L_holds_119 ca, k_L_holds_122 ca, k_L_holds_123 ca, k_L_holds_124 ca, k_L_holds_125 ca, k_L_holds_127 ca, k_L_holds_130 ca, k_L_holds_131 ca, k_L_holds_132 ca, k_L_holds_133 ca, k_L_holds_134 ca, k_L_holds_135 ca, k_L_holds_136 ca, k_L_holds_139 ca, k_L_holds_141 ca, k_L_holds_142 ca, k_L_holds_143 ca, k_L_holds_145 ca, k_L_holds_148 ca, k_L_holds_150 ca, k_L_holds_152 ca, k_L_holds_154 ca, k_L_holds_157 ca, k_L_holds_158 ca, k_L_holds_161 ca, k_L_holds_162 ca, k_L_holds_163 ca, k_L_holds_165 ca, k_L_holds_168 ca, k_L_holds_170 ca, k_L_holds_172 ca, k_L_holds_174 ca, k_L_holds_177 ca, k_L_holds_179 ca, k_L_holds_182 ca, k_L_holds_184 ca, k_L_holds_185 ca, k_L_holds_186 ca, k_L_holds_187 ca, k_L_holds_190 ca, k_L_holds_193 ca, k_L_holds_196 ca, k_L_holds_198 ca, k_L_holds_199 ca, k_L_holds_200 ca, k_L_holds_201 ca, k_L_holds_204 ca, k_L_holds_207 ca, k_L_holds_208 ca, k_L_holds_211 ca, k_L_holds_212 ca, k_L_holds_214 ca, k_L_holds_215 ca, k_L_holds_216 ca, k_L_holds_217 ca, k_L_holds_220 ca, k_L_holds_222 ca, k_L_holds_225 ca, k_L_holds_226 ca, k_L_holds_227 ca, k_L_holds_228 ca, k_L_holds_231 ca, k_L_holds_233 ca, k_L_holds_236 ca, k_L_holds_237 ca, k_L_holds_238 ca, k_L_holds_239 ca, k_L_holds_242 ca, k_L_holds_244 ca, k_L_holds_246 ca, k_L_holds_249 ca, k_L_holds_250 ca, k_L_holds_251 ca, k_L_holds_254 ca, k_L_holds_255 ca, k_L_holds_256 ca, k_L_holds_258 ca, k_L_holds_261 ca, k_L_holds_262 ca, k_L_holds_263 ca, k_L_holds_264 ca, k_L_holds_267 ca, k_L_holds_270 ca, k_L_holds_271 ca, k_L_holds_272 ca, k_L_holds_273 ca, k_L_holds_276 ca, k_L_holds_277 ca, k_L_holds_278 ca, k_L_holds_279 ca, k_L_holds_282 ca, k_L_holds_285 ca, k_L_holds_286 ca, k_L_holds_287 ca, k_L_holds_289 ca, k_L_holds_292 ca, k_L_holds_293 ca, k_L_holds_296 ca, k_L_holds_297 ca, k_L_holds_298 ca, k_L_holds_300 ca, k_L_holds_303 ca, k_L_holds_304 ca, k_L_holds_307 ca, k_L_holds_308 ca, k_L_holds_311 ca, k_L_holds_312 ca, k_L_holds_313 ca, k_L_holds_314 ca, k_L_holds_316 ca, k_L_holds_319 ca, k_L_holds_320 ca, k_L_holds_321 ca, k_L_holds_323 ca, k_L_holds_326 ca, k_L_holds_329 ca, k_L_holds_330 ca, k_L_holds_333 ca, k_L_holds_334 ca, k_L_holds_337 ca, k_L_holds_338 ca, k_L_holds_341 ca, k_L_holds_342 ca, k_L_holds_344 ca, k_L_holds_346 ca, k_L_holds_349 ca, k_L_holds_352 ca, k_L_holds_354 ca, k_L_holds_357 ca, k_L_holds_360 ca, k_L_holds_361 ca, k_L_holds_362 ca, k_L_holds_365 ca, k_L_holds_368 ca, k_L_holds_369 ca, k_L_holds_370 ca, k_L_holds_371 ca, k_L_holds_374 ca, k_L_holds_376 ca, k_L_holds_379 ca, k_L_holds_382 ca, k_L_holds_383 ca, k_L_holds_384 ca, k_L_holds_386 ca, k_L_holds_389 ca, k_L_holds_390 ca, k_L_holds_391 ca, k_L_holds_392 ca, k_L_holds_395 ca, k_L_holds_398 ca, k_L_holds_399 ca, k_L_holds_400 ca, k_L_holds_401 ca, k_L_holds_404 ca, k_L_holds_405 ca, k_L_holds_406 ca, k_L_holds_409 ca, k_L_holds_412 ca, k_L_holds_413 ca, k_L_holds_416 ca, k_L_holds_417 ca, k_L_holds_419 ca, k_L_holds_421 ca, k_L_holds_424 ca, k_L_holds_426 ca, k_L_holds_429 ca, k_L_holds_431 ca, k_L_holds_434 ca, k_L_holds_435 ca, k_L_holds_436 ca, k_L_holds_439 ca, k_L_holds_442 ca, k_L_holds_443 ca, k_L_holds_444 ca, k_L_holds_445 ca, k_L_holds_448 ca, k_L_holds_451 ca, k_L_holds_452 ca, k_L_holds_453 ca, k_L_holds_456 ca, k_L_holds_458 ca, k_L_holds_461 ca, k_L_holds_462 ca, k_L_holds_465 ca, k_L_holds_466 ca, k_L_holds_467 ca, k_L_holds_468 ca, k_L_holds_471 ca, k_L_holds_473 ca, k_L_holds_476 ca, k_L_holds_477 ca, k_L_holds_480 ca, k_L_holds_481 ca, k_L_holds_484 ca, k_L_holds_485 ca, k_L_holds_488 ca, k_L_holds_489 ca, c7, H, sq_stripOf, sq_tripsAt, sq_bend, e9, sp_L_low, z2, q, tn, tb]
        try clear hF hF0 F
        exact k0 _ _ _ _ _
    · rcases W.trD hk with t | ⟨t1, t2⟩
      · refine goN go (stp [214]) 160 _ _ _ _ _ _ (fun F hF hF0 => ?_)
        simp only [hF, hF0, ite_not, i_push, i_iload, i_lload, i_aload, i_istore, i_astore, i_lstore, i_iinc, i_bin, i_dv, i_un, i_lbin, i_lsh, i_i2l, i_l2i, i_lcmp, i_dup, i_dup2, i_pop, i_if, i_icmp, i_goto, swG, i_sw, i_getf, i_puti, i_putz, i_putr, i_ald, i_lald, i_aald, i_ast, i_last, i_aast, i_alen, i_new, i_newi, i_newl, i_newq, i_oinit, i_ret, i_zret, i_lret, i_vret, catS, tk, rpush, isO, i_m1, i_m2, i_acopy, i_callV, i_callS, KRet, lget, lput, lputL, lcl0, isL, lv0, List.map_cons, List.map_nil, List.length_cons, List.length_nil, List.cons_append, List.nil_append, Nat.reduceAdd, Nat.reduceSub, Nat.reduceLeDiff, List.replicate_succ, List.replicate_zero, List.getElem?_cons_succ, List.getElem?_cons_zero, List.set_cons_succ, List.set_cons_zero, true_and, and_true, if_true, if_false, ↓reduceIte, Nat.le_refl, Value.category, va_up_app, eq_self, stp, Nat.reduceBEq, Bool.or_false, Bool.false_or, Bool.true_or, Bool.or_true, or_true, true_or, bx_uu, implies_true, true_implies, not_true, not_false_eq_true, false_implies, and_self, Nat.reduceLT, Int32.reduceAdd, Int32.reduceSub, Int32.reduceMul, Int32.reduceLE, Int32.reduceLT, Int32.reduceToNatClampNeg, va_rf_some, Bool.false_eq_true, k_L_holds_0 ca, k_L_holds_1 ca, k_L_holds_2 ca, k_L_holds_3 ca, k_L_holds_4 ca, k_L_holds_5 ca, k_L_holds_6 ca, k_L_holds_9 ca, k_L_holds_10 ca, k_L_holds_12 ca, k_L_holds_13 ca, k_L_holds_15 ca, k_L_holds_16 ca, k_L_holds_17 ca, k_L_holds_18 ca, k_L_holds_21 ca, k_L_holds_23 ca, k_L_holds_24 ca, k_L_holds_26 ca, k_L_holds_28 ca, k_L_holds_29 ca, k_L_holds_30 ca, k_L_holds_31 ca, k_L_holds_34 ca, k_L_holds_37 ca, k_L_holds_39 ca, k_L_holds_40 ca, k_L_holds_41 ca, k_L_holds_43 ca, k_L_holds_44 ca, k_L_holds_47 ca, k_L_holds_48 ca, k_L_holds_50 ca, k_L_holds_52 ca, k_L_holds_53 ca, k_L_holds_54 ca, k_L_holds_56 ca, k_L_holds_57 ca, k_L_holds_60 ca, k_L_holds_61 ca, k_L_holds_63 ca, k_L_holds_64 ca, k_L_holds_65 ca, k_L_holds_67 ca, k_L_holds_68 ca, k_L_holds_71 ca, k_L_holds_72 ca, k_L_holds_73 ca, k_L_holds_75 ca, k_L_holds_76 ca, k_L_holds_79 ca, k_L_holds_80 ca, k_L_holds_82 ca, k_L_holds_83 ca, k_L_holds_84 ca, k_L_holds_86 ca, k_L_holds_87 ca, k_L_holds_90 ca, k_L_holds_91 ca, k_L_holds_94 ca, k_L_holds_95 ca, k_L_holds_97 ca, k_L_holds_98 ca, k_L_holds_99 ca, k_L_holds_101 ca, k_L_holds_102 ca, k_L_holds_105 ca, k_L_holds_106 ca, k_L_holds_109 ca, k_L_holds_110 ca, k_L_holds_111 ca, k_L_holds_114 ca, k_L_holds_115 ca, k_L_holds_116 ca, k_L_holds_119 ca, k_L_holds_122 ca, k_L_holds_123 ca, k_L_holds_124 ca, k_L_holds_125 ca, k_L_holds_127 ca, k_L_holds_130 ca, k_L_holds_131 ca, k_L_holds_132 ca, k_L_holds_133 ca, k_L_holds_134 ca, k_L_holds_135 ca, k_L_holds_136 ca, k_L_holds_139 ca, k_L_holds_141 ca, k_L_holds_142 ca, k_L_holds_143 ca, k_L_holds_145 ca, k_L_holds_148 ca, k_L_holds_150 ca, k_L_holds_152 ca, k_L_holds_154 ca, k_L_holds_157 ca, k_L_holds_158 ca, k_L_holds_161 ca, k_L_holds_162 ca, k_L_holds_163 ca, k_L_holds_165 ca, k_L_holds_168 ca, k_L_holds_170 ca, k_L_holds_172 ca, k_L_holds_174 ca, k_L_holds_177 ca, k_L_holds_179 ca, k_L_holds_182 ca, k_L_holds_184 ca, k_L_holds_185 ca, k_L_holds_186 ca, k_L_holds_187 ca, k_L_holds_190 ca, k_L_holds_193 ca, k_L_holds_196 ca, k_L_holds_198 ca, k_L_holds_199 ca, k_L_holds_200 ca, k_L_holds_201 ca, k_L_holds_204 ca, k_L_holds_207 ca, k_L_holds_208 ca, k_L_holds_211 ca, k_L_holds_212 ca, k_L_holds_214 ca, k_L_holds_215 ca, k_L_holds_216 ca, k_L_holds_217 ca, k_L_holds_220 ca, k_L_holds_222 ca, k_L_holds_225 ca, k_L_holds_226 ca, k_L_holds_227 ca, k_L_holds_228 ca, k_L_holds_231 ca, k_L_holds_233 ca, k_L_holds_236 ca, k_L_holds_237 ca, k_L_holds_238 ca, k_L_holds_239 ca, k_L_holds_242 ca, k_L_holds_244 ca, k_L_holds_246 ca, k_L_holds_249 ca, k_L_holds_250 ca, k_L_holds_251 ca, k_L_holds_254 ca, k_L_holds_255 ca, k_L_holds_256 ca, k_L_holds_258 ca, k_L_holds_261 ca, k_L_holds_262 ca, k_L_holds_263 ca, k_L_holds_264 ca, k_L_holds_267 ca, k_L_holds_270 ca, k_L_holds_271 ca, k_L_holds_272 ca, k_L_holds_273 ca, k_L_holds_276 ca, k_L_holds_277 ca, k_L_holds_278 ca, k_L_holds_279 ca, k_L_holds_282 ca, k_L_holds_285 ca, k_L_holds_286 ca, k_L_holds_287 ca, k_L_holds_289 ca, k_L_holds_292 ca, k_L_holds_293 ca, k_L_holds_296 ca, k_L_holds_297 ca, k_L_holds_298 ca, k_L_holds_300 ca, k_L_holds_303 ca, k_L_holds_304 ca, k_L_holds_307 ca, k_L_holds_308 ca, k_L_holds_311 ca, k_L_holds_312 ca, k_L_holds_313 ca, k_L_holds_314 ca, k_L_holds_316 ca, k_L_holds_319 ca, k_L_holds_320 ca, k_L_holds_321 ca, k_L_holds_323 ca, k_L_holds_326 ca, k_L_holds_329 ca, k_L_holds_330 ca, k_L_holds_333 ca, k_L_holds_334 ca, k_L_holds_337 ca, k_L_holds_338 ca, k_L_holds_341 ca, k_L_holds_342 ca, k_L_holds_344 ca, k_L_holds_346 ca, k_L_holds_349 ca, k_L_holds_352 ca, k_L_holds_354 ca, k_L_holds_357 ca, k_L_holds_360 ca, k_L_holds_361 ca, k_L_holds_362 ca, k_L_holds_365 ca, k_L_holds_368 ca, k_L_holds_369 ca, k_L_holds_370 ca, k_L_holds_371 ca, k_L_holds_374 ca, k_L_holds_376 ca, k_L_holds_379 ca, k_L_holds_382 ca, k_L_holds_383 ca, k_L_holds_384 ca, k_L_holds_386 ca, k_L_holds_389 ca, k_L_holds_390 ca, k_L_holds_391 ca, k_L_holds_392 ca, k_L_holds_395 ca, k_L_holds_398 ca, k_L_holds_399 ca, k_L_holds_400 ca, k_L_holds_401 ca, k_L_holds_404 ca, k_L_holds_405 ca, k_L_holds_406 ca, k_L_holds_409 ca, k_L_holds_412 ca, k_L_holds_413 ca, k_L_holds_416 ca, k_L_holds_417 ca, k_L_holds_419 ca, k_L_holds_421 ca, k_L_holds_424 ca, k_L_holds_426 ca, k_L_holds_429 ca, k_L_holds_431 ca, k_L_holds_434 ca, k_L_holds_435 ca, k_L_holds_436 ca, k_L_holds_439 ca, k_L_holds_442 ca, k_L_holds_443 ca, k_L_holds_444 ca, k_L_holds_445 ca, k_L_holds_448 ca, k_L_holds_451 ca, k_L_holds_452 ca, k_L_holds_453 ca, k_L_holds_456 ca, k_L_holds_458 ca, k_L_holds_461 ca, k_L_holds_462 ca, k_L_holds_465 ca, k_L_holds_466 ca, k_L_holds_467 ca, k_L_holds_468 ca, k_L_holds_471 ca, k_L_holds_473 ca, k_L_holds_476 ca, k_L_holds_477 ca, k_L_holds_480 ca, k_L_holds_481 ca, k_L_holds_484 ca, k_L_holds_485 ca, k_L_holds_488 ca, k_L_holds_489 ca, c7, H, sq_stripOf, sq_tripsAt, e9, sp_L_low, z2, q, t, one0]
        try clear hF hF0 F
        exact k0 _ _ _ _ _
      · have tn : ¬ aTripC s (nI k) 1 = -10000004 := fun z => by rw [z] at t1; exact absurd t1 (by decide)
        have tb : ¬ aStripOf s (nI k) 4 < aBend s (nI k) (aTripC s (nI k) 1) := by rw [bn_g hk t1, st4 hk]; exact Int32.not_lt.mpr t2
        refine goN go (stp [214]) 160 _ _ _ _ _ _ (fun F hF hF0 => ?_)
        simp only [hF, hF0, ite_not, i_push, i_iload, i_lload, i_aload, i_istore, i_astore, i_lstore, i_iinc, i_bin, i_dv, i_un, i_lbin, i_lsh, i_i2l, i_l2i, i_lcmp, i_dup, i_dup2, i_pop, i_if, i_icmp, i_goto, swG, i_sw, i_getf, i_puti, i_putz, i_putr, i_ald, i_lald, i_aald, i_ast, i_last, i_aast, i_alen, i_new, i_newi, i_newl, i_newq, i_oinit, i_ret, i_zret, i_lret, i_vret, catS, tk, rpush, isO, i_m1, i_m2, i_acopy, i_callV, i_callS, KRet, lget, lput, lputL, lcl0, isL, lv0, List.map_cons, List.map_nil, List.length_cons, List.length_nil, List.cons_append, List.nil_append, Nat.reduceAdd, Nat.reduceSub, Nat.reduceLeDiff, List.replicate_succ, List.replicate_zero, List.getElem?_cons_succ, List.getElem?_cons_zero, List.set_cons_succ, List.set_cons_zero, true_and, and_true, if_true, if_false, ↓reduceIte, Nat.le_refl, Value.category, va_up_app, eq_self, stp, Nat.reduceBEq, Bool.or_false, Bool.false_or, Bool.true_or, Bool.or_true, or_true, true_or, bx_uu, implies_true, true_implies, not_true, not_false_eq_true, false_implies, and_self, Nat.reduceLT, Int32.reduceAdd, Int32.reduceSub, Int32.reduceMul, Int32.reduceLE, Int32.reduceLT, Int32.reduceToNatClampNeg, va_rf_some, Bool.false_eq_true, k_L_holds_0 ca, k_L_holds_1 ca, k_L_holds_2 ca, k_L_holds_3 ca, k_L_holds_4 ca, k_L_holds_5 ca, k_L_holds_6 ca, k_L_holds_9 ca, k_L_holds_10 ca, k_L_holds_12 ca, k_L_holds_13 ca, k_L_holds_15 ca, k_L_holds_16 ca, k_L_holds_17 ca, k_L_holds_18 ca, k_L_holds_21 ca, k_L_holds_23 ca, k_L_holds_24 ca, k_L_holds_26 ca, k_L_holds_28 ca, k_L_holds_29 ca, k_L_holds_30 ca, k_L_holds_31 ca, k_L_holds_34 ca, k_L_holds_37 ca, k_L_holds_39 ca, k_L_holds_40 ca, k_L_holds_41 ca, k_L_holds_43 ca, k_L_holds_44 ca, k_L_holds_47 ca, k_L_holds_48 ca, k_L_holds_50 ca, k_L_holds_52 ca, k_L_holds_53 ca, k_L_holds_54 ca, k_L_holds_56 ca, k_L_holds_57 ca, k_L_holds_60 ca, k_L_holds_61 ca, k_L_holds_63 ca, k_L_holds_64 ca, k_L_holds_65 ca, k_L_holds_67 ca, k_L_holds_68 ca, k_L_holds_71 ca, k_L_holds_72 ca, k_L_holds_73 ca, k_L_holds_75 ca, k_L_holds_76 ca, k_L_holds_79 ca, k_L_holds_80 ca, k_L_holds_82 ca, k_L_holds_83 ca, k_L_holds_84 ca, k_L_holds_86 ca, k_L_holds_87 ca, k_L_holds_90 ca, k_L_holds_91 ca, k_L_holds_94 ca, k_L_holds_95 ca, k_L_holds_97 ca, k_L_holds_98 ca, k_L_holds_99 ca, k_L_holds_101 ca, k_L_holds_102 ca, k_L_holds_105 ca, k_L_holds_106 ca, k_L_holds_109 ca, k_L_holds_110 ca, k_L_holds_111 ca, k_L_holds_114 ca, k_L_holds_115 ca, k_L_holds_116 ca, k_L_holds_119 ca, k_L_holds_122 ca, k_L_holds_123 ca, k_L_holds_124 ca, k_L_holds_125 ca, k_L_holds_127 ca, k_L_holds_130 ca, k_L_holds_131 ca, k_L_holds_132 ca, k_L_holds_133 ca, k_L_holds_134 ca, k_L_holds_135 ca, k_L_holds_136 ca, k_L_holds_139 ca, k_L_holds_141 ca, k_L_holds_142 ca, k_L_holds_143 ca, k_L_holds_145 ca, k_L_holds_148 ca, k_L_holds_150 ca, k_L_holds_152 ca, k_L_holds_154 ca, k_L_holds_157 ca, k_L_holds_158 ca, k_L_holds_161 ca, k_L_holds_162 ca, k_L_holds_163 ca, k_L_holds_165 ca, k_L_holds_168 ca, k_L_holds_170 ca, k_L_holds_172 ca, k_L_holds_174 ca, k_L_holds_177 ca, k_L_holds_179 ca, k_L_holds_182 ca, k_L_holds_184 ca, k_L_holds_185 ca, k_L_holds_186 ca, k_L_holds_187 ca, k_L_holds_190 ca, k_L_holds_193 ca, k_L_holds_196 ca, k_L_holds_198 ca, k_L_holds_199 ca, k_L_holds_200 ca, k_L_holds_201 ca, k_L_holds_204 ca, k_L_holds_207 ca, k_L_holds_208 ca, k_L_holds_211 ca, k_L_holds_212 ca, k_L_holds_214 ca, k_L_holds_215 ca, k_L_holds_216 ca, k_L_holds_217 ca, k_L_holds_220 ca, k_L_holds_222 ca, k_L_holds_225 ca, k_L_holds_226 ca, k_L_holds_227 ca, k_L_holds_228 ca, k_L_holds_231 ca, k_L_holds_233 ca, k_L_holds_236 ca, k_L_holds_237 ca, k_L_holds_238 ca, k_L_holds_239 ca, k_L_holds_242 ca, k_L_holds_244 ca, k_L_holds_246 ca, k_L_holds_249 ca, k_L_holds_250 ca, k_L_holds_251 ca, k_L_holds_254 ca, k_L_holds_255 ca, k_L_holds_256 ca, k_L_holds_258 ca, k_L_holds_261 ca, k_L_holds_262 ca, k_L_holds_263 ca, k_L_holds_264 ca, k_L_holds_267 ca, k_L_holds_270 ca, k_L_holds_271 ca, k_L_holds_272 ca, k_L_holds_273 ca, k_L_holds_276 ca, k_L_holds_277 ca, k_L_holds_278 ca, k_L_holds_279 ca, k_L_holds_282 ca, k_L_holds_285 ca, k_L_holds_286 ca, k_L_holds_287 ca, k_L_holds_289 ca, k_L_holds_292 ca, k_L_holds_293 ca, k_L_holds_296 ca, k_L_holds_297 ca, k_L_holds_298 ca, k_L_holds_300 ca, k_L_holds_303 ca, k_L_holds_304 ca, k_L_holds_307 ca, k_L_holds_308 ca, k_L_holds_311 ca, k_L_holds_312 ca, k_L_holds_313 ca, k_L_holds_314 ca, k_L_holds_316 ca, k_L_holds_319 ca, k_L_holds_320 ca, k_L_holds_321 ca, k_L_holds_323 ca, k_L_holds_326 ca, k_L_holds_329 ca, k_L_holds_330 ca, k_L_holds_333 ca, k_L_holds_334 ca, k_L_holds_337 ca, k_L_holds_338 ca, k_L_holds_341 ca, k_L_holds_342 ca, k_L_holds_344 ca, k_L_holds_346 ca, k_L_holds_349 ca, k_L_holds_352 ca, k_L_holds_354 ca, k_L_holds_357 ca, k_L_holds_360 ca, k_L_holds_361 ca, k_L_holds_362 ca, k_L_holds_365 ca, k_L_holds_368 ca, k_L_holds_369 ca, k_L_holds_370 ca, k_L_holds_371 ca, k_L_holds_374 ca, k_L_holds_376 ca, k_L_holds_379 ca, k_L_holds_382 ca, k_L_holds_383 ca, k_L_holds_384 ca, k_L_holds_386 ca, k_L_holds_389 ca, k_L_holds_390 ca, k_L_holds_391 ca, k_L_holds_392 ca, k_L_holds_395 ca, k_L_holds_398 ca, k_L_holds_399 ca, k_L_holds_400 ca, k_L_holds_401 ca, k_L_holds_404 ca, k_L_holds_405 ca, k_L_holds_406 ca, k_L_holds_409 ca, k_L_holds_412 ca, k_L_holds_413 ca, k_L_holds_416 ca, k_L_holds_417 ca, k_L_holds_419 ca, k_L_holds_421 ca, k_L_holds_424 ca, k_L_holds_426 ca, k_L_holds_429 ca, k_L_holds_431 ca, k_L_holds_434 ca, k_L_holds_435 ca, k_L_holds_436 ca, k_L_holds_439 ca, k_L_holds_442 ca, k_L_holds_443 ca, k_L_holds_444 ca, k_L_holds_445 ca, k_L_holds_448 ca, k_L_holds_451 ca, k_L_holds_452 ca, k_L_holds_453 ca, k_L_holds_456 ca, k_L_holds_458 ca, k_L_holds_461 ca, k_L_holds_462 ca, k_L_holds_465 ca, k_L_holds_466 ca, k_L_holds_467 ca, k_L_holds_468 ca, k_L_holds_471 ca, k_L_holds_473 ca, k_L_holds_476 ca, k_L_holds_477 ca, k_L_holds_480 ca, k_L_holds_481 ca, k_L_holds_484 ca, k_L_holds_485 ca, k_L_holds_488 ca, k_L_holds_489 ca, c7, H, sq_stripOf, sq_tripsAt, sq_bend, e9, sp_L_low, z2, q, tn, tb, one0]
        try clear hF hF0 F
        exact k0 _ _ _ _ _
  have body : ∀ k, k < 3 → ∀ (sn : Int32), (∀ m4 m5 m6 m7 m8 m9 m10 m11 m12, K 0 0 4 [some (.ref (g 0)), some (.int x), some (.int (sn + s (16 + 32 * k))), some (.int (nI (k + 1))), m4, m5, m6, m7, m8, m9, m10, m11, m12] [] h) → ∀ m4 m5 m6 m7 m8 m9 m10 m11 m12, K 0 0 4 [some (.ref (g 0)), some (.int x), some (.int sn), some (.int (nI k)), m4, m5, m6, m7, m8, m9, m10, m11, m12] [] h := by
    intro k hk sn nx m4 m5 m6 m7 m8 m9 m10 m11 m12
    obtain ⟨N, hN, eN⟩ := W.cnt hk
    have c : (s (10 + 32 * k)).toNatClampNeg = N := by rw [eN]; exact nI_clamp (by omega)
    have s0' := st0 (s := s) hk
    rw [eN] at s0'
    have inner : ∀ r i, i + r = N → K 0 0 26 [some (.ref (g 0)), some (.int x), some (.int sn), some (.int (nI k)), some (.int (sumF (fun i => s (10 + 32 * k + (8 + 3 * i))) i)), some (.int (sumF (rateP (fun i => s (10 + 32 * k + (8 + 3 * i))) (fun i => s (10 + 32 * k + (9 + 3 * i))) (fun i => s (10 + 32 * k + (10 + 3 * i))) s) i)), some (.int (s (106 + 7 * k))), some (.int (nI i)), m8, m9, m10, m11, m12] [] h := by
      intro r
      induction r with
      | zero =>
        intro i hi
        have ei : i = N := by omega
        subst ei
        have k0 := trips k hk sn (nI i) nx m8 m9 m10 m11 m12
        rw [st1 hk, st2 hk, c] at k0
        have er : rt s (10 + 32 * k) = sumF (rateP (fun i => s (10 + 32 * k + (8 + 3 * i))) (fun i => s (10 + 32 * k + (9 + 3 * i))) (fun i => s (10 + 32 * k + (10 + 3 * i))) s) i := by
          unfold rt rateF
          rw [c]
        rw [er] at k0
        have e1 : (nI i ≤ nI i) = True := ge_t
        refine goN go (stp [122]) 160 _ _ _ _ _ _ (fun F hF hF0 => ?_)
        simp only [hF, hF0, ite_not, i_push, i_iload, i_lload, i_aload, i_istore, i_astore, i_lstore, i_iinc, i_bin, i_dv, i_un, i_lbin, i_lsh, i_i2l, i_l2i, i_lcmp, i_dup, i_dup2, i_pop, i_if, i_icmp, i_goto, swG, i_sw, i_getf, i_puti, i_putz, i_putr, i_ald, i_lald, i_aald, i_ast, i_last, i_aast, i_alen, i_new, i_newi, i_newl, i_newq, i_oinit, i_ret, i_zret, i_lret, i_vret, catS, tk, rpush, isO, i_m1, i_m2, i_acopy, i_callV, i_callS, KRet, lget, lput, lputL, lcl0, isL, lv0, List.map_cons, List.map_nil, List.length_cons, List.length_nil, List.cons_append, List.nil_append, Nat.reduceAdd, Nat.reduceSub, Nat.reduceLeDiff, List.replicate_succ, List.replicate_zero, List.getElem?_cons_succ, List.getElem?_cons_zero, List.set_cons_succ, List.set_cons_zero, true_and, and_true, if_true, if_false, ↓reduceIte, Nat.le_refl, Value.category, va_up_app, eq_self, stp, Nat.reduceBEq, Bool.or_false, Bool.false_or, Bool.true_or, Bool.or_true, or_true, true_or, bx_uu, implies_true, true_implies, not_true, not_false_eq_true, false_implies, and_self, Nat.reduceLT, Int32.reduceAdd, Int32.reduceSub, Int32.reduceMul, Int32.reduceLE, Int32.reduceLT, Int32.reduceToNatClampNeg, va_rf_some, Bool.false_eq_true, k_L_holds_0 ca, k_L_holds_1 ca, k_L_holds_2 ca, k_L_holds_3 ca, k_L_holds_4 ca, k_L_holds_5 ca, k_L_holds_6 ca, k_L_holds_9 ca, k_L_holds_10 ca, k_L_holds_12 ca, k_L_holds_13 ca, k_L_holds_15 ca, k_L_holds_16 ca, k_L_holds_17 ca, k_L_holds_18 ca, k_L_holds_21 ca, k_L_holds_23 ca, k_L_holds_24 ca, k_L_holds_26 ca, k_L_holds_28 ca, k_L_holds_29 ca, k_L_holds_30 ca, k_L_holds_31 ca, k_L_holds_34 ca, k_L_holds_37 ca, k_L_holds_39 ca, k_L_holds_40 ca, k_L_holds_41 ca, k_L_holds_43 ca, k_L_holds_44 ca, k_L_holds_47 ca, k_L_holds_48 ca, k_L_holds_50 ca, k_L_holds_52 ca, k_L_holds_53 ca, k_L_holds_54 ca, k_L_holds_56 ca, k_L_holds_57 ca, k_L_holds_60 ca, k_L_holds_61 ca, k_L_holds_63 ca, k_L_holds_64 ca, k_L_holds_65 ca, k_L_holds_67 ca, k_L_holds_68 ca, k_L_holds_71 ca, k_L_holds_72 ca, k_L_holds_73 ca, k_L_holds_75 ca, k_L_holds_76 ca, k_L_holds_79 ca, k_L_holds_80 ca, k_L_holds_82 ca, k_L_holds_83 ca, k_L_holds_84 ca, k_L_holds_86 ca, k_L_holds_87 ca, k_L_holds_90 ca, k_L_holds_91 ca, k_L_holds_94 ca, k_L_holds_95 ca, k_L_holds_97 ca, k_L_holds_98 ca, k_L_holds_99 ca, k_L_holds_101 ca, k_L_holds_102 ca, k_L_holds_105 ca, k_L_holds_106 ca, k_L_holds_109 ca, k_L_holds_110 ca, k_L_holds_111 ca, k_L_holds_114 ca, k_L_holds_115 ca, k_L_holds_116 ca, k_L_holds_119 ca, k_L_holds_122 ca, k_L_holds_123 ca, k_L_holds_124 ca, k_L_holds_125 ca, k_L_holds_127 ca, k_L_holds_130 ca, k_L_holds_131 ca, k_L_holds_132 ca, k_L_holds_133 ca, k_L_holds_134 ca, k_L_holds_135 ca, k_L_holds_136 ca, k_L_holds_139 ca, k_L_holds_141 ca, k_L_holds_142 ca, k_L_holds_143 ca, k_L_holds_145 ca, k_L_holds_148 ca, k_L_holds_150 ca, k_L_holds_152 ca, k_L_holds_154 ca, k_L_holds_157 ca, k_L_holds_158 ca, k_L_holds_161 ca, k_L_holds_162 ca, k_L_holds_163 ca, k_L_holds_165 ca, k_L_holds_168 ca, k_L_holds_170 ca, k_L_holds_172 ca, k_L_holds_174 ca, k_L_holds_177 ca, k_L_holds_179 ca, k_L_holds_182 ca, k_L_holds_184 ca, k_L_holds_185 ca, k_L_holds_186 ca, k_L_holds_187 ca, k_L_holds_190 ca, k_L_holds_193 ca, k_L_holds_196 ca, k_L_holds_198 ca, k_L_holds_199 ca, k_L_holds_200 ca, k_L_holds_201 ca, k_L_holds_204 ca, k_L_holds_207 ca, k_L_holds_208 ca, k_L_holds_211 ca, k_L_holds_212 ca, k_L_holds_214 ca, k_L_holds_215 ca, k_L_holds_216 ca, k_L_holds_217 ca, k_L_holds_220 ca, k_L_holds_222 ca, k_L_holds_225 ca, k_L_holds_226 ca, k_L_holds_227 ca, k_L_holds_228 ca, k_L_holds_231 ca, k_L_holds_233 ca, k_L_holds_236 ca, k_L_holds_237 ca, k_L_holds_238 ca, k_L_holds_239 ca, k_L_holds_242 ca, k_L_holds_244 ca, k_L_holds_246 ca, k_L_holds_249 ca, k_L_holds_250 ca, k_L_holds_251 ca, k_L_holds_254 ca, k_L_holds_255 ca, k_L_holds_256 ca, k_L_holds_258 ca, k_L_holds_261 ca, k_L_holds_262 ca, k_L_holds_263 ca, k_L_holds_264 ca, k_L_holds_267 ca, k_L_holds_270 ca, k_L_holds_271 ca, k_L_holds_272 ca, k_L_holds_273 ca, k_L_holds_276 ca, k_L_holds_277 ca, k_L_holds_278 ca, k_L_holds_279 ca, k_L_holds_282 ca, k_L_holds_285 ca, k_L_holds_286 ca, k_L_holds_287 ca, k_L_holds_289 ca, k_L_holds_292 ca, k_L_holds_293 ca, k_L_holds_296 ca, k_L_holds_297 ca, k_L_holds_298 ca, k_L_holds_300 ca, k_L_holds_303 ca, k_L_holds_304 ca, k_L_holds_307 ca, k_L_holds_308 ca, k_L_holds_311 ca, k_L_holds_312 ca, k_L_holds_313 ca, k_L_holds_314 ca, k_L_holds_316 ca, k_L_holds_319 ca, k_L_holds_320 ca, k_L_holds_321 ca, k_L_holds_323 ca, k_L_holds_326 ca, k_L_holds_329 ca, k_L_holds_330 ca, k_L_holds_333 ca, k_L_holds_334 ca, k_L_holds_337 ca, k_L_holds_338 ca, k_L_holds_341 ca, k_L_holds_342 ca, k_L_holds_344 ca, k_L_holds_346 ca, k_L_holds_349 ca, k_L_holds_352 ca, k_L_holds_354 ca, k_L_holds_357 ca, k_L_holds_360 ca, k_L_holds_361 ca, k_L_holds_362 ca, k_L_holds_365 ca, k_L_holds_368 ca, k_L_holds_369 ca, k_L_holds_370 ca, k_L_holds_371 ca, k_L_holds_374 ca, k_L_holds_376 ca, k_L_holds_379 ca, k_L_holds_382 ca, k_L_holds_383 ca, k_L_holds_384 ca, k_L_holds_386 ca, k_L_holds_389 ca, k_L_holds_390 ca, k_L_holds_391 ca, k_L_holds_392 ca, k_L_holds_395 ca, k_L_holds_398 ca, k_L_holds_399 ca, k_L_holds_400 ca, k_L_holds_401 ca, k_L_holds_404 ca, k_L_holds_405 ca, k_L_holds_406 ca, k_L_holds_409 ca, k_L_holds_412 ca, k_L_holds_413 ca, k_L_holds_416 ca, k_L_holds_417 ca, k_L_holds_419 ca, k_L_holds_421 ca, k_L_holds_424 ca, k_L_holds_426 ca, k_L_holds_429 ca, k_L_holds_431 ca, k_L_holds_434 ca, k_L_holds_435 ca, k_L_holds_436 ca, k_L_holds_439 ca, k_L_holds_442 ca, k_L_holds_443 ca, k_L_holds_444 ca, k_L_holds_445 ca, k_L_holds_448 ca, k_L_holds_451 ca, k_L_holds_452 ca, k_L_holds_453 ca, k_L_holds_456 ca, k_L_holds_458 ca, k_L_holds_461 ca, k_L_holds_462 ca, k_L_holds_465 ca, k_L_holds_466 ca, k_L_holds_467 ca, k_L_holds_468 ca, k_L_holds_471 ca, k_L_holds_473 ca, k_L_holds_476 ca, k_L_holds_477 ca, k_L_holds_480 ca, k_L_holds_481 ca, k_L_holds_484 ca, k_L_holds_485 ca, k_L_holds_488 ca, k_L_holds_489 ca, c7, H, sq_stripOf, s0', e1]
        try clear hF hF0 F
        exact k0
      | succ r ih =>
        intro i hi
        have k0 := ih (i + 1) (by omega)
        have hi8 : i < N := by omega
        obtain ⟨M1, hM1, eM1⟩ := W.pU hk (i := i) (by omega)
        obtain ⟨M2, hM2, eM2⟩ := W.pW hk (i := i) (by omega)
        have p0 := pt0 hk hN eN hi8
        have p1 := pt1 hk hN eN hi8
        have p2 := pt2 hk hN eN hi8
        rw [eM1] at p1
        rw [eM2] at p2
        have m1 := ctm (s := s) (ss := ss) (n := n) (M := M1) (by omega)
        have m2 := ctm (s := s) (ss := ss) (n := n) (M := M2) (by omega)
        have hr : rateP (fun i => s (10 + 32 * k + (8 + 3 * i))) (fun i => s (10 + 32 * k + (9 + 3 * i))) (fun i => s (10 + 32 * k + (10 + 3 * i))) s i = s (10 + 32 * k + (8 + 3 * i)) * (s M1 - s M2) := by
          show s (10 + 32 * k + (8 + 3 * i)) * (s (s (10 + 32 * k + (9 + 3 * i))).toNatClampNeg - s (s (10 + 32 * k + (10 + 3 * i))).toNatClampNeg) = _
          rw [eM1, eM2, nI_clamp (by omega), nI_clamp (by omega)]
        have p3 := pt3' hk hN eN hi8
        rw [hr] at p3
        have e5 : sumF (rateP (fun i => s (10 + 32 * k + (8 + 3 * i))) (fun i => s (10 + 32 * k + (9 + 3 * i))) (fun i => s (10 + 32 * k + (10 + 3 * i))) s) (i + 1) = sumF (rateP (fun i => s (10 + 32 * k + (8 + 3 * i))) (fun i => s (10 + 32 * k + (9 + 3 * i))) (fun i => s (10 + 32 * k + (10 + 3 * i))) s) i + s (10 + 32 * k + (8 + 3 * i)) * (s M1 - s M2) := by
          show sumF _ i + rateP _ _ _ s i = _
          rw [hr]
        have e4 : sumF (fun i => s (10 + 32 * k + (8 + 3 * i))) (i + 1) = sumF (fun i => s (10 + 32 * k + (8 + 3 * i))) i + s (10 + 32 * k + (8 + 3 * i)) := rfl
        rw [e4, e5] at k0
        have e1 : (nI N ≤ nI i) = False := ge_f hi8 (by omega)
        generalize sumF (fun i => s (10 + 32 * k + (8 + 3 * i))) i = A1 at *
        generalize sumF (rateP (fun i => s (10 + 32 * k + (8 + 3 * i))) (fun i => s (10 + 32 * k + (9 + 3 * i))) (fun i => s (10 + 32 * k + (10 + 3 * i))) s) i = A2 at *
        clear hr e4 e5 ih
        refine goN go (stp [26]) 160 _ _ _ _ _ _ (fun F hF hF0 => ?_)
        simp only [hF, hF0, ite_not, i_push, i_iload, i_lload, i_aload, i_istore, i_astore, i_lstore, i_iinc, i_bin, i_dv, i_un, i_lbin, i_lsh, i_i2l, i_l2i, i_lcmp, i_dup, i_dup2, i_pop, i_if, i_icmp, i_goto, swG, i_sw, i_getf, i_puti, i_putz, i_putr, i_ald, i_lald, i_aald, i_ast, i_last, i_aast, i_alen, i_new, i_newi, i_newl, i_newq, i_oinit, i_ret, i_zret, i_lret, i_vret, catS, tk, rpush, isO, i_m1, i_m2, i_acopy, i_callV, i_callS, KRet, lget, lput, lputL, lcl0, isL, lv0, List.map_cons, List.map_nil, List.length_cons, List.length_nil, List.cons_append, List.nil_append, Nat.reduceAdd, Nat.reduceSub, Nat.reduceLeDiff, List.replicate_succ, List.replicate_zero, List.getElem?_cons_succ, List.getElem?_cons_zero, List.set_cons_succ, List.set_cons_zero, true_and, and_true, if_true, if_false, ↓reduceIte, Nat.le_refl, Value.category, va_up_app, eq_self, stp, Nat.reduceBEq, Bool.or_false, Bool.false_or, Bool.true_or, Bool.or_true, or_true, true_or, bx_uu, implies_true, true_implies, not_true, not_false_eq_true, false_implies, and_self, Nat.reduceLT, Int32.reduceAdd, Int32.reduceSub, Int32.reduceMul, Int32.reduceLE, Int32.reduceLT, Int32.reduceToNatClampNeg, va_rf_some, Bool.false_eq_true, k_L_holds_0 ca, k_L_holds_1 ca, k_L_holds_2 ca, k_L_holds_3 ca, k_L_holds_4 ca, k_L_holds_5 ca, k_L_holds_6 ca, k_L_holds_9 ca, k_L_holds_10 ca, k_L_holds_12 ca, k_L_holds_13 ca, k_L_holds_15 ca, k_L_holds_16 ca, k_L_holds_17 ca, k_L_holds_18 ca, k_L_holds_21 ca, k_L_holds_23 ca, k_L_holds_24 ca, k_L_holds_26 ca, k_L_holds_28 ca, k_L_holds_29 ca, k_L_holds_30 ca, k_L_holds_31 ca, k_L_holds_34 ca, k_L_holds_37 ca, k_L_holds_39 ca, k_L_holds_40 ca, k_L_holds_41 ca, k_L_holds_43 ca, k_L_holds_44 ca, k_L_holds_47 ca, k_L_holds_48 ca, k_L_holds_50 ca, k_L_holds_52 ca, k_L_holds_53 ca, k_L_holds_54 ca, k_L_holds_56 ca, k_L_holds_57 ca, k_L_holds_60 ca, k_L_holds_61 ca, k_L_holds_63 ca, k_L_holds_64 ca, k_L_holds_65 ca, k_L_holds_67 ca, k_L_holds_68 ca, k_L_holds_71 ca, k_L_holds_72 ca, k_L_holds_73 ca, k_L_holds_75 ca, k_L_holds_76 ca, k_L_holds_79 ca, k_L_holds_80 ca, k_L_holds_82 ca, k_L_holds_83 ca, k_L_holds_84 ca, k_L_holds_86 ca, k_L_holds_87 ca, k_L_holds_90 ca, k_L_holds_91 ca, k_L_holds_94 ca, k_L_holds_95 ca, k_L_holds_97 ca, k_L_holds_98 ca, k_L_holds_99 ca, k_L_holds_101 ca, k_L_holds_102 ca, k_L_holds_105 ca, k_L_holds_106 ca, k_L_holds_109 ca, k_L_holds_110 ca, k_L_holds_111 ca, k_L_holds_114 ca, k_L_holds_115 ca, k_L_holds_116 ca, k_L_holds_119 ca, k_L_holds_122 ca, k_L_holds_123 ca, k_L_holds_124 ca, k_L_holds_125 ca, k_L_holds_127 ca, k_L_holds_130 ca, k_L_holds_131 ca, k_L_holds_132 ca, k_L_holds_133 ca, k_L_holds_134 ca, k_L_holds_135 ca, k_L_holds_136 ca, k_L_holds_139 ca, k_L_holds_141 ca, k_L_holds_142 ca, k_L_holds_143 ca, k_L_holds_145 ca, k_L_holds_148 ca, k_L_holds_150 ca, k_L_holds_152 ca, k_L_holds_154 ca, k_L_holds_157 ca, k_L_holds_158 ca, k_L_holds_161 ca, k_L_holds_162 ca, k_L_holds_163 ca, k_L_holds_165 ca, k_L_holds_168 ca, k_L_holds_170 ca, k_L_holds_172 ca, k_L_holds_174 ca, k_L_holds_177 ca, k_L_holds_179 ca, k_L_holds_182 ca, k_L_holds_184 ca, k_L_holds_185 ca, k_L_holds_186 ca, k_L_holds_187 ca, k_L_holds_190 ca, k_L_holds_193 ca, k_L_holds_196 ca, k_L_holds_198 ca, k_L_holds_199 ca, k_L_holds_200 ca, k_L_holds_201 ca, k_L_holds_204 ca, k_L_holds_207 ca, k_L_holds_208 ca, k_L_holds_211 ca, k_L_holds_212 ca, k_L_holds_214 ca, k_L_holds_215 ca, k_L_holds_216 ca, k_L_holds_217 ca, k_L_holds_220 ca, k_L_holds_222 ca, k_L_holds_225 ca, k_L_holds_226 ca, k_L_holds_227 ca, k_L_holds_228 ca, k_L_holds_231 ca, k_L_holds_233 ca, k_L_holds_236 ca, k_L_holds_237 ca, k_L_holds_238 ca, k_L_holds_239 ca, k_L_holds_242 ca, k_L_holds_244 ca, k_L_holds_246 ca, k_L_holds_249 ca, k_L_holds_250 ca, k_L_holds_251 ca, k_L_holds_254 ca, k_L_holds_255 ca, k_L_holds_256 ca, k_L_holds_258 ca, k_L_holds_261 ca, k_L_holds_262 ca, k_L_holds_263 ca, k_L_holds_264 ca, k_L_holds_267 ca, k_L_holds_270 ca, k_L_holds_271 ca, k_L_holds_272 ca, k_L_holds_273 ca, k_L_holds_276 ca, k_L_holds_277 ca, k_L_holds_278 ca, k_L_holds_279 ca, k_L_holds_282 ca, k_L_holds_285 ca, k_L_holds_286 ca, k_L_holds_287 ca, k_L_holds_289 ca, k_L_holds_292 ca, k_L_holds_293 ca, k_L_holds_296 ca, k_L_holds_297 ca, k_L_holds_298 ca, k_L_holds_300 ca, k_L_holds_303 ca, k_L_holds_304 ca, k_L_holds_307 ca, k_L_holds_308 ca, k_L_holds_311 ca, k_L_holds_312 ca, k_L_holds_313 ca, k_L_holds_314 ca, k_L_holds_316 ca, k_L_holds_319 ca, k_L_holds_320 ca, k_L_holds_321 ca, k_L_holds_323 ca, k_L_holds_326 ca, k_L_holds_329 ca, k_L_holds_330 ca, k_L_holds_333 ca, k_L_holds_334 ca, k_L_holds_337 ca, k_L_holds_338 ca, k_L_holds_341 ca, k_L_holds_342 ca, k_L_holds_344 ca, k_L_holds_346 ca, k_L_holds_349 ca, k_L_holds_352 ca, k_L_holds_354 ca, k_L_holds_357 ca, k_L_holds_360 ca, k_L_holds_361 ca, k_L_holds_362 ca, k_L_holds_365 ca, k_L_holds_368 ca, k_L_holds_369 ca, k_L_holds_370 ca, k_L_holds_371 ca, k_L_holds_374 ca, k_L_holds_376 ca, k_L_holds_379 ca, k_L_holds_382 ca, k_L_holds_383 ca, k_L_holds_384 ca, k_L_holds_386 ca, k_L_holds_389 ca, k_L_holds_390 ca, k_L_holds_391 ca, k_L_holds_392 ca, k_L_holds_395 ca, k_L_holds_398 ca, k_L_holds_399 ca, k_L_holds_400 ca, k_L_holds_401 ca, k_L_holds_404 ca, k_L_holds_405 ca, k_L_holds_406 ca, k_L_holds_409 ca, k_L_holds_412 ca, k_L_holds_413 ca, k_L_holds_416 ca, k_L_holds_417 ca, k_L_holds_419 ca, k_L_holds_421 ca, k_L_holds_424 ca, k_L_holds_426 ca, k_L_holds_429 ca, k_L_holds_431 ca, k_L_holds_434 ca, k_L_holds_435 ca, k_L_holds_436 ca, k_L_holds_439 ca, k_L_holds_442 ca, k_L_holds_443 ca, k_L_holds_444 ca, k_L_holds_445 ca, k_L_holds_448 ca, k_L_holds_451 ca, k_L_holds_452 ca, k_L_holds_453 ca, k_L_holds_456 ca, k_L_holds_458 ca, k_L_holds_461 ca, k_L_holds_462 ca, k_L_holds_465 ca, k_L_holds_466 ca, k_L_holds_467 ca, k_L_holds_468 ca, k_L_holds_471 ca, k_L_holds_473 ca, k_L_holds_476 ca, k_L_holds_477 ca, k_L_holds_480 ca, k_L_holds_481 ca, k_L_holds_484 ca, k_L_holds_485 ca, k_L_holds_488 ca, k_L_holds_489 ca, c7, H, sq_stripOf, sq_partOf, sq_count, s0', e1, p0, p1, p2, p3, m1, m2, a_1]
        try clear hF hF0 F
        exact k0
    have k0 := inner N 0 (by omega)
    rw [nI_0] at k0
    have e1 : ((3 : Int32) ≤ nI k) = False := ge_f (N := 3) hk (by decide)
    have e6 := ro0 (s := s) hk
    refine goN go (stp [26]) 160 _ _ _ _ _ _ (fun F hF hF0 => ?_)
    simp only [hF, hF0, ite_not, i_push, i_iload, i_lload, i_aload, i_istore, i_astore, i_lstore, i_iinc, i_bin, i_dv, i_un, i_lbin, i_lsh, i_i2l, i_l2i, i_lcmp, i_dup, i_dup2, i_pop, i_if, i_icmp, i_goto, swG, i_sw, i_getf, i_puti, i_putz, i_putr, i_ald, i_lald, i_aald, i_ast, i_last, i_aast, i_alen, i_new, i_newi, i_newl, i_newq, i_oinit, i_ret, i_zret, i_lret, i_vret, catS, tk, rpush, isO, i_m1, i_m2, i_acopy, i_callV, i_callS, KRet, lget, lput, lputL, lcl0, isL, lv0, List.map_cons, List.map_nil, List.length_cons, List.length_nil, List.cons_append, List.nil_append, Nat.reduceAdd, Nat.reduceSub, Nat.reduceLeDiff, List.replicate_succ, List.replicate_zero, List.getElem?_cons_succ, List.getElem?_cons_zero, List.set_cons_succ, List.set_cons_zero, true_and, and_true, if_true, if_false, ↓reduceIte, Nat.le_refl, Value.category, va_up_app, eq_self, stp, Nat.reduceBEq, Bool.or_false, Bool.false_or, Bool.true_or, Bool.or_true, or_true, true_or, bx_uu, implies_true, true_implies, not_true, not_false_eq_true, false_implies, and_self, Nat.reduceLT, Int32.reduceAdd, Int32.reduceSub, Int32.reduceMul, Int32.reduceLE, Int32.reduceLT, Int32.reduceToNatClampNeg, va_rf_some, Bool.false_eq_true, k_L_holds_0 ca, k_L_holds_1 ca, k_L_holds_2 ca, k_L_holds_3 ca, k_L_holds_4 ca, k_L_holds_5 ca, k_L_holds_6 ca, k_L_holds_9 ca, k_L_holds_10 ca, k_L_holds_12 ca, k_L_holds_13 ca, k_L_holds_15 ca, k_L_holds_16 ca, k_L_holds_17 ca, k_L_holds_18 ca, k_L_holds_21 ca, k_L_holds_23 ca, k_L_holds_24 ca, k_L_holds_26 ca, k_L_holds_28 ca, k_L_holds_29 ca, k_L_holds_30 ca, k_L_holds_31 ca, k_L_holds_34 ca, k_L_holds_37 ca, k_L_holds_39 ca, k_L_holds_40 ca, k_L_holds_41 ca, k_L_holds_43 ca, k_L_holds_44 ca, k_L_holds_47 ca, k_L_holds_48 ca, k_L_holds_50 ca, k_L_holds_52 ca, k_L_holds_53 ca, k_L_holds_54 ca, k_L_holds_56 ca, k_L_holds_57 ca, k_L_holds_60 ca, k_L_holds_61 ca, k_L_holds_63 ca, k_L_holds_64 ca, k_L_holds_65 ca, k_L_holds_67 ca, k_L_holds_68 ca, k_L_holds_71 ca, k_L_holds_72 ca, k_L_holds_73 ca, k_L_holds_75 ca, k_L_holds_76 ca, k_L_holds_79 ca, k_L_holds_80 ca, k_L_holds_82 ca, k_L_holds_83 ca, k_L_holds_84 ca, k_L_holds_86 ca, k_L_holds_87 ca, k_L_holds_90 ca, k_L_holds_91 ca, k_L_holds_94 ca, k_L_holds_95 ca, k_L_holds_97 ca, k_L_holds_98 ca, k_L_holds_99 ca, k_L_holds_101 ca, k_L_holds_102 ca, k_L_holds_105 ca, k_L_holds_106 ca, k_L_holds_109 ca, k_L_holds_110 ca, k_L_holds_111 ca, k_L_holds_114 ca, k_L_holds_115 ca, k_L_holds_116 ca, k_L_holds_119 ca, k_L_holds_122 ca, k_L_holds_123 ca, k_L_holds_124 ca, k_L_holds_125 ca, k_L_holds_127 ca, k_L_holds_130 ca, k_L_holds_131 ca, k_L_holds_132 ca, k_L_holds_133 ca, k_L_holds_134 ca, k_L_holds_135 ca, k_L_holds_136 ca, k_L_holds_139 ca, k_L_holds_141 ca, k_L_holds_142 ca, k_L_holds_143 ca, k_L_holds_145 ca, k_L_holds_148 ca, k_L_holds_150 ca, k_L_holds_152 ca, k_L_holds_154 ca, k_L_holds_157 ca, k_L_holds_158 ca, k_L_holds_161 ca, k_L_holds_162 ca, k_L_holds_163 ca, k_L_holds_165 ca, k_L_holds_168 ca, k_L_holds_170 ca, k_L_holds_172 ca, k_L_holds_174 ca, k_L_holds_177 ca, k_L_holds_179 ca, k_L_holds_182 ca, k_L_holds_184 ca, k_L_holds_185 ca, k_L_holds_186 ca, k_L_holds_187 ca, k_L_holds_190 ca, k_L_holds_193 ca, k_L_holds_196 ca, k_L_holds_198 ca, k_L_holds_199 ca, k_L_holds_200 ca, k_L_holds_201 ca, k_L_holds_204 ca, k_L_holds_207 ca, k_L_holds_208 ca, k_L_holds_211 ca, k_L_holds_212 ca, k_L_holds_214 ca, k_L_holds_215 ca, k_L_holds_216 ca, k_L_holds_217 ca, k_L_holds_220 ca, k_L_holds_222 ca, k_L_holds_225 ca, k_L_holds_226 ca, k_L_holds_227 ca, k_L_holds_228 ca, k_L_holds_231 ca, k_L_holds_233 ca, k_L_holds_236 ca, k_L_holds_237 ca, k_L_holds_238 ca, k_L_holds_239 ca, k_L_holds_242 ca, k_L_holds_244 ca, k_L_holds_246 ca, k_L_holds_249 ca, k_L_holds_250 ca, k_L_holds_251 ca, k_L_holds_254 ca, k_L_holds_255 ca, k_L_holds_256 ca, k_L_holds_258 ca, k_L_holds_261 ca, k_L_holds_262 ca, k_L_holds_263 ca, k_L_holds_264 ca, k_L_holds_267 ca, k_L_holds_270 ca, k_L_holds_271 ca, k_L_holds_272 ca, k_L_holds_273 ca, k_L_holds_276 ca, k_L_holds_277 ca, k_L_holds_278 ca, k_L_holds_279 ca, k_L_holds_282 ca, k_L_holds_285 ca, k_L_holds_286 ca, k_L_holds_287 ca, k_L_holds_289 ca, k_L_holds_292 ca, k_L_holds_293 ca, k_L_holds_296 ca, k_L_holds_297 ca, k_L_holds_298 ca, k_L_holds_300 ca, k_L_holds_303 ca, k_L_holds_304 ca, k_L_holds_307 ca, k_L_holds_308 ca, k_L_holds_311 ca, k_L_holds_312 ca, k_L_holds_313 ca, k_L_holds_314 ca, k_L_holds_316 ca, k_L_holds_319 ca, k_L_holds_320 ca, k_L_holds_321 ca, k_L_holds_323 ca, k_L_holds_326 ca, k_L_holds_329 ca, k_L_holds_330 ca, k_L_holds_333 ca, k_L_holds_334 ca, k_L_holds_337 ca, k_L_holds_338 ca, k_L_holds_341 ca, k_L_holds_342 ca, k_L_holds_344 ca, k_L_holds_346 ca, k_L_holds_349 ca, k_L_holds_352 ca, k_L_holds_354 ca, k_L_holds_357 ca, k_L_holds_360 ca, k_L_holds_361 ca, k_L_holds_362 ca, k_L_holds_365 ca, k_L_holds_368 ca, k_L_holds_369 ca, k_L_holds_370 ca, k_L_holds_371 ca, k_L_holds_374 ca, k_L_holds_376 ca, k_L_holds_379 ca, k_L_holds_382 ca, k_L_holds_383 ca, k_L_holds_384 ca, k_L_holds_386 ca, k_L_holds_389 ca, k_L_holds_390 ca, k_L_holds_391 ca, k_L_holds_392 ca, k_L_holds_395 ca, k_L_holds_398 ca, k_L_holds_399 ca, k_L_holds_400 ca, k_L_holds_401 ca, k_L_holds_404 ca, k_L_holds_405 ca, k_L_holds_406 ca, k_L_holds_409 ca, k_L_holds_412 ca, k_L_holds_413 ca, k_L_holds_416 ca, k_L_holds_417 ca, k_L_holds_419 ca, k_L_holds_421 ca, k_L_holds_424 ca, k_L_holds_426 ca, k_L_holds_429 ca, k_L_holds_431 ca, k_L_holds_434 ca, k_L_holds_435 ca, k_L_holds_436 ca, k_L_holds_439 ca, k_L_holds_442 ca, k_L_holds_443 ca, k_L_holds_444 ca, k_L_holds_445 ca, k_L_holds_448 ca, k_L_holds_451 ca, k_L_holds_452 ca, k_L_holds_453 ca, k_L_holds_456 ca, k_L_holds_458 ca, k_L_holds_461 ca, k_L_holds_462 ca, k_L_holds_465 ca, k_L_holds_466 ca, k_L_holds_467 ca, k_L_holds_468 ca, k_L_holds_471 ca, k_L_holds_473 ca, k_L_holds_476 ca, k_L_holds_477 ca, k_L_holds_480 ca, k_L_holds_481 ca, k_L_holds_484 ca, k_L_holds_485 ca, k_L_holds_488 ca, k_L_holds_489 ca, c7, H, sq_roomOf, e6, e1]
    try clear hF hF0 F
    exact k0
  have last : ∀ m4 m5 m6 m7 m8 m9 m10 m11 m12, K 0 0 4 [some (.ref (g 0)), some (.int x), some (.int (0 + s (16 + 32 * 0) + s (16 + 32 * 1) + s (16 + 32 * 2))), some (.int (nI 3)), m4, m5, m6, m7, m8, m9, m10, m11, m12] [] h := by
    intro m4 m5 m6 m7 m8 m9 m10 m11 m12
    have e1 : ((3 : Int32) ≤ nI 3) = True := ge_t
    have es : 0 + s (16 + 32 * 0) + s (16 + 32 * 1) + s (16 + 32 * 2) = s 16 + s 48 + s 80 := by rw [Int32.zero_add]
    rw [es]
    have ec := ct1 (s := s) (ss := ss) (n := n)
    refine goN go (stp [456]) 160 _ _ _ _ _ _ (fun F hF hF0 => ?_)
    simp only [hF, hF0, ite_not, i_push, i_iload, i_lload, i_aload, i_istore, i_astore, i_lstore, i_iinc, i_bin, i_dv, i_un, i_lbin, i_lsh, i_i2l, i_l2i, i_lcmp, i_dup, i_dup2, i_pop, i_if, i_icmp, i_goto, swG, i_sw, i_getf, i_puti, i_putz, i_putr, i_ald, i_lald, i_aald, i_ast, i_last, i_aast, i_alen, i_new, i_newi, i_newl, i_newq, i_oinit, i_ret, i_zret, i_lret, i_vret, catS, tk, rpush, isO, i_m1, i_m2, i_acopy, i_callV, i_callS, KRet, lget, lput, lputL, lcl0, isL, lv0, List.map_cons, List.map_nil, List.length_cons, List.length_nil, List.cons_append, List.nil_append, Nat.reduceAdd, Nat.reduceSub, Nat.reduceLeDiff, List.replicate_succ, List.replicate_zero, List.getElem?_cons_succ, List.getElem?_cons_zero, List.set_cons_succ, List.set_cons_zero, true_and, and_true, if_true, if_false, ↓reduceIte, Nat.le_refl, Value.category, va_up_app, eq_self, stp, Nat.reduceBEq, Bool.or_false, Bool.false_or, Bool.true_or, Bool.or_true, or_true, true_or, bx_uu, implies_true, true_implies, not_true, not_false_eq_true, false_implies, and_self, Nat.reduceLT, Int32.reduceAdd, Int32.reduceSub, Int32.reduceMul, Int32.reduceLE, Int32.reduceLT, Int32.reduceToNatClampNeg, va_rf_some, Bool.false_eq_true, k_L_holds_0 ca, k_L_holds_1 ca, k_L_holds_2 ca, k_L_holds_3 ca, k_L_holds_4 ca, k_L_holds_5 ca, k_L_holds_6 ca, k_L_holds_9 ca, k_L_holds_10 ca, k_L_holds_12 ca, k_L_holds_13 ca, k_L_holds_15 ca, k_L_holds_16 ca, k_L_holds_17 ca, k_L_holds_18 ca, k_L_holds_21 ca, k_L_holds_23 ca, k_L_holds_24 ca, k_L_holds_26 ca, k_L_holds_28 ca, k_L_holds_29 ca, k_L_holds_30 ca, k_L_holds_31 ca, k_L_holds_34 ca, k_L_holds_37 ca, k_L_holds_39 ca, k_L_holds_40 ca, k_L_holds_41 ca, k_L_holds_43 ca, k_L_holds_44 ca, k_L_holds_47 ca, k_L_holds_48 ca, k_L_holds_50 ca, k_L_holds_52 ca, k_L_holds_53 ca, k_L_holds_54 ca, k_L_holds_56 ca, k_L_holds_57 ca, k_L_holds_60 ca, k_L_holds_61 ca, k_L_holds_63 ca, k_L_holds_64 ca, k_L_holds_65 ca, k_L_holds_67 ca, k_L_holds_68 ca, k_L_holds_71 ca, k_L_holds_72 ca, k_L_holds_73 ca, k_L_holds_75 ca, k_L_holds_76 ca, k_L_holds_79 ca, k_L_holds_80 ca, k_L_holds_82 ca, k_L_holds_83 ca, k_L_holds_84 ca, k_L_holds_86 ca, k_L_holds_87 ca, k_L_holds_90 ca, k_L_holds_91 ca, k_L_holds_94 ca, k_L_holds_95 ca, k_L_holds_97 ca, k_L_holds_98 ca, k_L_holds_99 ca, k_L_holds_101 ca, k_L_holds_102 ca, k_L_holds_105 ca, k_L_holds_106 ca, k_L_holds_109 ca, k_L_holds_110 ca, k_L_holds_111 ca, k_L_holds_114 ca, k_L_holds_115 ca, k_L_holds_116 ca, k_L_holds_119 ca, k_L_holds_122 ca, k_L_holds_123 ca, k_L_holds_124 ca, k_L_holds_125 ca, k_L_holds_127 ca, k_L_holds_130 ca, k_L_holds_131 ca, k_L_holds_132 ca, k_L_holds_133 ca, k_L_holds_134 ca, k_L_holds_135 ca, k_L_holds_136 ca, k_L_holds_139 ca, k_L_holds_141 ca, k_L_holds_142 ca, k_L_holds_143 ca, k_L_holds_145 ca, k_L_holds_148 ca, k_L_holds_150 ca, k_L_holds_152 ca, k_L_holds_154 ca, k_L_holds_157 ca, k_L_holds_158 ca, k_L_holds_161 ca, k_L_holds_162 ca, k_L_holds_163 ca, k_L_holds_165 ca, k_L_holds_168 ca, k_L_holds_170 ca, k_L_holds_172 ca, k_L_holds_174 ca, k_L_holds_177 ca, k_L_holds_179 ca, k_L_holds_182 ca, k_L_holds_184 ca, k_L_holds_185 ca, k_L_holds_186 ca, k_L_holds_187 ca, k_L_holds_190 ca, k_L_holds_193 ca, k_L_holds_196 ca, k_L_holds_198 ca, k_L_holds_199 ca, k_L_holds_200 ca, k_L_holds_201 ca, k_L_holds_204 ca, k_L_holds_207 ca, k_L_holds_208 ca, k_L_holds_211 ca, k_L_holds_212 ca, k_L_holds_214 ca, k_L_holds_215 ca, k_L_holds_216 ca, k_L_holds_217 ca, k_L_holds_220 ca, k_L_holds_222 ca, k_L_holds_225 ca, k_L_holds_226 ca, k_L_holds_227 ca, k_L_holds_228 ca, k_L_holds_231 ca, k_L_holds_233 ca, k_L_holds_236 ca, k_L_holds_237 ca, k_L_holds_238 ca, k_L_holds_239 ca, k_L_holds_242 ca, k_L_holds_244 ca, k_L_holds_246 ca, k_L_holds_249 ca, k_L_holds_250 ca, k_L_holds_251 ca, k_L_holds_254 ca, k_L_holds_255 ca, k_L_holds_256 ca, k_L_holds_258 ca, k_L_holds_261 ca, k_L_holds_262 ca, k_L_holds_263 ca, k_L_holds_264 ca, k_L_holds_267 ca, k_L_holds_270 ca, k_L_holds_271 ca, k_L_holds_272 ca, k_L_holds_273 ca, k_L_holds_276 ca, k_L_holds_277 ca, k_L_holds_278 ca, k_L_holds_279 ca, k_L_holds_282 ca, k_L_holds_285 ca, k_L_holds_286 ca, k_L_holds_287 ca, k_L_holds_289 ca, k_L_holds_292 ca, k_L_holds_293 ca, k_L_holds_296 ca, k_L_holds_297 ca, k_L_holds_298 ca, k_L_holds_300 ca, k_L_holds_303 ca, k_L_holds_304 ca, k_L_holds_307 ca, k_L_holds_308 ca, k_L_holds_311 ca, k_L_holds_312 ca, k_L_holds_313 ca, k_L_holds_314 ca, k_L_holds_316 ca, k_L_holds_319 ca, k_L_holds_320 ca, k_L_holds_321 ca, k_L_holds_323 ca, k_L_holds_326 ca, k_L_holds_329 ca, k_L_holds_330 ca, k_L_holds_333 ca, k_L_holds_334 ca, k_L_holds_337 ca, k_L_holds_338 ca, k_L_holds_341 ca, k_L_holds_342 ca, k_L_holds_344 ca, k_L_holds_346 ca, k_L_holds_349 ca, k_L_holds_352 ca, k_L_holds_354 ca, k_L_holds_357 ca, k_L_holds_360 ca, k_L_holds_361 ca, k_L_holds_362 ca, k_L_holds_365 ca, k_L_holds_368 ca, k_L_holds_369 ca, k_L_holds_370 ca, k_L_holds_371 ca, k_L_holds_374 ca, k_L_holds_376 ca, k_L_holds_379 ca, k_L_holds_382 ca, k_L_holds_383 ca, k_L_holds_384 ca, k_L_holds_386 ca, k_L_holds_389 ca, k_L_holds_390 ca, k_L_holds_391 ca, k_L_holds_392 ca, k_L_holds_395 ca, k_L_holds_398 ca, k_L_holds_399 ca, k_L_holds_400 ca, k_L_holds_401 ca, k_L_holds_404 ca, k_L_holds_405 ca, k_L_holds_406 ca, k_L_holds_409 ca, k_L_holds_412 ca, k_L_holds_413 ca, k_L_holds_416 ca, k_L_holds_417 ca, k_L_holds_419 ca, k_L_holds_421 ca, k_L_holds_424 ca, k_L_holds_426 ca, k_L_holds_429 ca, k_L_holds_431 ca, k_L_holds_434 ca, k_L_holds_435 ca, k_L_holds_436 ca, k_L_holds_439 ca, k_L_holds_442 ca, k_L_holds_443 ca, k_L_holds_444 ca, k_L_holds_445 ca, k_L_holds_448 ca, k_L_holds_451 ca, k_L_holds_452 ca, k_L_holds_453 ca, k_L_holds_456 ca, k_L_holds_458 ca, k_L_holds_461 ca, k_L_holds_462 ca, k_L_holds_465 ca, k_L_holds_466 ca, k_L_holds_467 ca, k_L_holds_468 ca, k_L_holds_471 ca, k_L_holds_473 ca, k_L_holds_476 ca, k_L_holds_477 ca, k_L_holds_480 ca, k_L_holds_481 ca, k_L_holds_484 ca, k_L_holds_485 ca, k_L_holds_488 ca, k_L_holds_489 ca, c7, H, sq_count, ec, e1]
    try clear hF hF0 F
    refine H.loop (Or.inl rfl) (fun h1 v0 H1 e0 => ?_)
    obtain ⟨fs1, c71⟩ := H1.cell
    by_cases q : nrep s
    · have q0 := e0.mpr q
      show K 0 0 456 _ [.int v0] h1
      refine goN go (stp [471]) 160 _ _ _ _ _ _ (fun F hF hF0 => ?_)
      simp only [hF, hF0, ite_not, i_push, i_iload, i_lload, i_aload, i_istore, i_astore, i_lstore, i_iinc, i_bin, i_dv, i_un, i_lbin, i_lsh, i_i2l, i_l2i, i_lcmp, i_dup, i_dup2, i_pop, i_if, i_icmp, i_goto, swG, i_sw, i_getf, i_puti, i_putz, i_putr, i_ald, i_lald, i_aald, i_ast, i_last, i_aast, i_alen, i_new, i_newi, i_newl, i_newq, i_oinit, i_ret, i_zret, i_lret, i_vret, catS, tk, rpush, isO, i_m1, i_m2, i_acopy, i_callV, i_callS, KRet, lget, lput, lputL, lcl0, isL, lv0, List.map_cons, List.map_nil, List.length_cons, List.length_nil, List.cons_append, List.nil_append, Nat.reduceAdd, Nat.reduceSub, Nat.reduceLeDiff, List.replicate_succ, List.replicate_zero, List.getElem?_cons_succ, List.getElem?_cons_zero, List.set_cons_succ, List.set_cons_zero, true_and, and_true, if_true, if_false, ↓reduceIte, Nat.le_refl, Value.category, va_up_app, eq_self, stp, Nat.reduceBEq, Bool.or_false, Bool.false_or, Bool.true_or, Bool.or_true, or_true, true_or, bx_uu, implies_true, true_implies, not_true, not_false_eq_true, false_implies, and_self, Nat.reduceLT, Int32.reduceAdd, Int32.reduceSub, Int32.reduceMul, Int32.reduceLE, Int32.reduceLT, Int32.reduceToNatClampNeg, va_rf_some, Bool.false_eq_true, k_L_holds_0 ca, k_L_holds_1 ca, k_L_holds_2 ca, k_L_holds_3 ca, k_L_holds_4 ca, k_L_holds_5 ca, k_L_holds_6 ca, k_L_holds_9 ca, k_L_holds_10 ca, k_L_holds_12 ca, k_L_holds_13 ca, k_L_holds_15 ca, k_L_holds_16 ca, k_L_holds_17 ca, k_L_holds_18 ca, k_L_holds_21 ca, k_L_holds_23 ca, k_L_holds_24 ca, k_L_holds_26 ca, k_L_holds_28 ca, k_L_holds_29 ca, k_L_holds_30 ca, k_L_holds_31 ca, k_L_holds_34 ca, k_L_holds_37 ca, k_L_holds_39 ca, k_L_holds_40 ca, k_L_holds_41 ca, k_L_holds_43 ca, k_L_holds_44 ca, k_L_holds_47 ca, k_L_holds_48 ca, k_L_holds_50 ca, k_L_holds_52 ca, k_L_holds_53 ca, k_L_holds_54 ca, k_L_holds_56 ca, k_L_holds_57 ca, k_L_holds_60 ca, k_L_holds_61 ca, k_L_holds_63 ca, k_L_holds_64 ca, k_L_holds_65 ca, k_L_holds_67 ca, k_L_holds_68 ca, k_L_holds_71 ca, k_L_holds_72 ca, k_L_holds_73 ca, k_L_holds_75 ca, k_L_holds_76 ca, k_L_holds_79 ca, k_L_holds_80 ca, k_L_holds_82 ca, k_L_holds_83 ca, k_L_holds_84 ca, k_L_holds_86 ca, k_L_holds_87 ca, k_L_holds_90 ca, k_L_holds_91 ca, k_L_holds_94 ca, k_L_holds_95 ca, k_L_holds_97 ca, k_L_holds_98 ca, k_L_holds_99 ca, k_L_holds_101 ca, k_L_holds_102 ca, k_L_holds_105 ca, k_L_holds_106 ca, k_L_holds_109 ca, k_L_holds_110 ca, k_L_holds_111 ca, k_L_holds_114 ca, k_L_holds_115 ca, k_L_holds_116 ca, k_L_holds_119 ca, k_L_holds_122 ca, k_L_holds_123 ca, k_L_holds_124 ca, k_L_holds_125 ca, k_L_holds_127 ca, k_L_holds_130 ca, k_L_holds_131 ca, k_L_holds_132 ca, k_L_holds_133 ca, k_L_holds_134 ca, k_L_holds_135 ca, k_L_holds_136 ca, k_L_holds_139 ca, k_L_holds_141 ca, k_L_holds_142 ca, k_L_holds_143 ca, k_L_holds_145 ca, k_L_holds_148 ca, k_L_holds_150 ca, k_L_holds_152 ca, k_L_holds_154 ca, k_L_holds_157 ca, k_L_holds_158 ca, k_L_holds_161 ca, k_L_holds_162 ca, k_L_holds_163 ca, k_L_holds_165 ca, k_L_holds_168 ca, k_L_holds_170 ca, k_L_holds_172 ca, k_L_holds_174 ca, k_L_holds_177 ca, k_L_holds_179 ca, k_L_holds_182 ca, k_L_holds_184 ca, k_L_holds_185 ca, k_L_holds_186 ca, k_L_holds_187 ca, k_L_holds_190 ca, k_L_holds_193 ca, k_L_holds_196 ca, k_L_holds_198 ca, k_L_holds_199 ca, k_L_holds_200 ca, k_L_holds_201 ca, k_L_holds_204 ca, k_L_holds_207 ca, k_L_holds_208 ca, k_L_holds_211 ca, k_L_holds_212 ca, k_L_holds_214 ca, k_L_holds_215 ca, k_L_holds_216 ca, k_L_holds_217 ca, k_L_holds_220 ca, k_L_holds_222 ca, k_L_holds_225 ca, k_L_holds_226 ca, k_L_holds_227 ca, k_L_holds_228 ca, k_L_holds_231 ca, k_L_holds_233 ca, k_L_holds_236 ca, k_L_holds_237 ca, k_L_holds_238 ca, k_L_holds_239 ca, k_L_holds_242 ca, k_L_holds_244 ca, k_L_holds_246 ca, k_L_holds_249 ca, k_L_holds_250 ca, k_L_holds_251 ca, k_L_holds_254 ca, k_L_holds_255 ca, k_L_holds_256 ca, k_L_holds_258 ca, k_L_holds_261 ca, k_L_holds_262 ca, k_L_holds_263 ca, k_L_holds_264 ca, k_L_holds_267 ca, k_L_holds_270 ca, k_L_holds_271 ca, k_L_holds_272 ca, k_L_holds_273 ca, k_L_holds_276 ca, k_L_holds_277 ca, k_L_holds_278 ca, k_L_holds_279 ca, k_L_holds_282 ca, k_L_holds_285 ca, k_L_holds_286 ca, k_L_holds_287 ca, k_L_holds_289 ca, k_L_holds_292 ca, k_L_holds_293 ca, k_L_holds_296 ca, k_L_holds_297 ca, k_L_holds_298 ca, k_L_holds_300 ca, k_L_holds_303 ca, k_L_holds_304 ca, k_L_holds_307 ca, k_L_holds_308 ca, k_L_holds_311 ca, k_L_holds_312 ca, k_L_holds_313 ca, k_L_holds_314 ca, k_L_holds_316 ca, k_L_holds_319 ca, k_L_holds_320 ca, k_L_holds_321 ca, k_L_holds_323 ca, k_L_holds_326 ca, k_L_holds_329 ca, k_L_holds_330 ca, k_L_holds_333 ca, k_L_holds_334 ca, k_L_holds_337 ca, k_L_holds_338 ca, k_L_holds_341 ca, k_L_holds_342 ca, k_L_holds_344 ca, k_L_holds_346 ca, k_L_holds_349 ca, k_L_holds_352 ca, k_L_holds_354 ca, k_L_holds_357 ca, k_L_holds_360 ca, k_L_holds_361 ca, k_L_holds_362 ca, k_L_holds_365 ca, k_L_holds_368 ca, k_L_holds_369 ca, k_L_holds_370 ca, k_L_holds_371 ca, k_L_holds_374 ca, k_L_holds_376 ca, k_L_holds_379 ca, k_L_holds_382 ca, k_L_holds_383 ca, k_L_holds_384 ca, k_L_holds_386 ca, k_L_holds_389 ca, k_L_holds_390 ca, k_L_holds_391 ca, k_L_holds_392 ca, k_L_holds_395 ca, k_L_holds_398 ca, k_L_holds_399 ca, k_L_holds_400 ca, k_L_holds_401 ca, k_L_holds_404 ca, k_L_holds_405 ca, k_L_holds_406 ca, k_L_holds_409 ca, k_L_holds_412 ca, k_L_holds_413 ca, k_L_holds_416 ca, k_L_holds_417 ca, k_L_holds_419 ca, k_L_holds_421 ca, k_L_holds_424 ca, k_L_holds_426 ca, k_L_holds_429 ca, k_L_holds_431 ca, k_L_holds_434 ca, k_L_holds_435 ca, k_L_holds_436 ca, k_L_holds_439 ca, k_L_holds_442 ca, k_L_holds_443 ca, k_L_holds_444 ca, k_L_holds_445 ca, k_L_holds_448 ca, k_L_holds_451 ca, k_L_holds_452 ca, k_L_holds_453 ca, k_L_holds_456 ca, k_L_holds_458 ca, k_L_holds_461 ca, k_L_holds_462 ca, k_L_holds_465 ca, k_L_holds_466 ca, k_L_holds_467 ca, k_L_holds_468 ca, k_L_holds_471 ca, k_L_holds_473 ca, k_L_holds_476 ca, k_L_holds_477 ca, k_L_holds_480 ca, k_L_holds_481 ca, k_L_holds_484 ca, k_L_holds_485 ca, k_L_holds_488 ca, k_L_holds_489 ca, c71, q0]
      try clear hF hF0 F
      refine H1.loop (Or.inr rfl) (fun h2 v1 H2 e1 => ?_)
      have q1 := e1.mpr q
      show K 0 0 471 _ [.int v1, .int 1] h2
      have k0 := hs h2 H2
      refine goN go (stp []) 160 _ _ _ _ _ _ (fun F hF hF0 => ?_)
      simp only [hF, hF0, ite_not, i_push, i_iload, i_lload, i_aload, i_istore, i_astore, i_lstore, i_iinc, i_bin, i_dv, i_un, i_lbin, i_lsh, i_i2l, i_l2i, i_lcmp, i_dup, i_dup2, i_pop, i_if, i_icmp, i_goto, swG, i_sw, i_getf, i_puti, i_putz, i_putr, i_ald, i_lald, i_aald, i_ast, i_last, i_aast, i_alen, i_new, i_newi, i_newl, i_newq, i_oinit, i_ret, i_zret, i_lret, i_vret, catS, tk, rpush, isO, i_m1, i_m2, i_acopy, i_callV, i_callS, KRet, lget, lput, lputL, lcl0, isL, lv0, List.map_cons, List.map_nil, List.length_cons, List.length_nil, List.cons_append, List.nil_append, Nat.reduceAdd, Nat.reduceSub, Nat.reduceLeDiff, List.replicate_succ, List.replicate_zero, List.getElem?_cons_succ, List.getElem?_cons_zero, List.set_cons_succ, List.set_cons_zero, true_and, and_true, if_true, if_false, ↓reduceIte, Nat.le_refl, Value.category, va_up_app, eq_self, stp, Nat.reduceBEq, Bool.or_false, Bool.false_or, Bool.true_or, Bool.or_true, or_true, true_or, bx_uu, implies_true, true_implies, not_true, not_false_eq_true, false_implies, and_self, Nat.reduceLT, Int32.reduceAdd, Int32.reduceSub, Int32.reduceMul, Int32.reduceLE, Int32.reduceLT, Int32.reduceToNatClampNeg, va_rf_some, Bool.false_eq_true, k_L_holds_0 ca, k_L_holds_1 ca, k_L_holds_2 ca, k_L_holds_3 ca, k_L_holds_4 ca, k_L_holds_5 ca, k_L_holds_6 ca, k_L_holds_9 ca, k_L_holds_10 ca, k_L_holds_12 ca, k_L_holds_13 ca, k_L_holds_15 ca, k_L_holds_16 ca, k_L_holds_17 ca, k_L_holds_18 ca, k_L_holds_21 ca, k_L_holds_23 ca, k_L_holds_24 ca, k_L_holds_26 ca, k_L_holds_28 ca, k_L_holds_29 ca, k_L_holds_30 ca, k_L_holds_31 ca, k_L_holds_34 ca, k_L_holds_37 ca, k_L_holds_39 ca, k_L_holds_40 ca, k_L_holds_41 ca, k_L_holds_43 ca, k_L_holds_44 ca, k_L_holds_47 ca, k_L_holds_48 ca, k_L_holds_50 ca, k_L_holds_52 ca, k_L_holds_53 ca, k_L_holds_54 ca, k_L_holds_56 ca, k_L_holds_57 ca, k_L_holds_60 ca, k_L_holds_61 ca, k_L_holds_63 ca, k_L_holds_64 ca, k_L_holds_65 ca, k_L_holds_67 ca, k_L_holds_68 ca, k_L_holds_71 ca, k_L_holds_72 ca, k_L_holds_73 ca, k_L_holds_75 ca, k_L_holds_76 ca, k_L_holds_79 ca, k_L_holds_80 ca, k_L_holds_82 ca, k_L_holds_83 ca, k_L_holds_84 ca, k_L_holds_86 ca, k_L_holds_87 ca, k_L_holds_90 ca, k_L_holds_91 ca, k_L_holds_94 ca, k_L_holds_95 ca, k_L_holds_97 ca, k_L_holds_98 ca, k_L_holds_99 ca, k_L_holds_101 ca, k_L_holds_102 ca, k_L_holds_105 ca, k_L_holds_106 ca, k_L_holds_109 ca, k_L_holds_110 ca, k_L_holds_111 ca, k_L_holds_114 ca, k_L_holds_115 ca, k_L_holds_116 ca, k_L_holds_119 ca, k_L_holds_122 ca, k_L_holds_123 ca, k_L_holds_124 ca, k_L_holds_125 ca, k_L_holds_127 ca, k_L_holds_130 ca, k_L_holds_131 ca, k_L_holds_132 ca, k_L_holds_133 ca, k_L_holds_134 ca, k_L_holds_135 ca, k_L_holds_136 ca, k_L_holds_139 ca, k_L_holds_141 ca, k_L_holds_142 ca, k_L_holds_143 ca, k_L_holds_145 ca, k_L_holds_148 ca, k_L_holds_150 ca, k_L_holds_152 ca, k_L_holds_154 ca, k_L_holds_157 ca, k_L_holds_158 ca, k_L_holds_161 ca, k_L_holds_162 ca, k_L_holds_163 ca, k_L_holds_165 ca, k_L_holds_168 ca, k_L_holds_170 ca, k_L_holds_172 ca, k_L_holds_174 ca, k_L_holds_177 ca, k_L_holds_179 ca, k_L_holds_182 ca, k_L_holds_184 ca, k_L_holds_185 ca, k_L_holds_186 ca, k_L_holds_187 ca, k_L_holds_190 ca, k_L_holds_193 ca, k_L_holds_196 ca, k_L_holds_198 ca, k_L_holds_199 ca, k_L_holds_200 ca, k_L_holds_201 ca, k_L_holds_204 ca, k_L_holds_207 ca, k_L_holds_208 ca, k_L_holds_211 ca, k_L_holds_212 ca, k_L_holds_214 ca, k_L_holds_215 ca, k_L_holds_216 ca, k_L_holds_217 ca, k_L_holds_220 ca, k_L_holds_222 ca, k_L_holds_225 ca, k_L_holds_226 ca, k_L_holds_227 ca, k_L_holds_228 ca, k_L_holds_231 ca, k_L_holds_233 ca, k_L_holds_236 ca, k_L_holds_237 ca, k_L_holds_238 ca, k_L_holds_239 ca, k_L_holds_242 ca, k_L_holds_244 ca, k_L_holds_246 ca, k_L_holds_249 ca, k_L_holds_250 ca, k_L_holds_251 ca, k_L_holds_254 ca, k_L_holds_255 ca, k_L_holds_256 ca, k_L_holds_258 ca, k_L_holds_261 ca, k_L_holds_262 ca, k_L_holds_263 ca, k_L_holds_264 ca, k_L_holds_267 ca, k_L_holds_270 ca, k_L_holds_271 ca, k_L_holds_272 ca, k_L_holds_273 ca, k_L_holds_276 ca, k_L_holds_277 ca, k_L_holds_278 ca, k_L_holds_279 ca, k_L_holds_282 ca, k_L_holds_285 ca, k_L_holds_286 ca, k_L_holds_287 ca, k_L_holds_289 ca, k_L_holds_292 ca, k_L_holds_293 ca, k_L_holds_296 ca, k_L_holds_297 ca, k_L_holds_298 ca, k_L_holds_300 ca, k_L_holds_303 ca, k_L_holds_304 ca, k_L_holds_307 ca, k_L_holds_308 ca, k_L_holds_311 ca, k_L_holds_312 ca, k_L_holds_313 ca, k_L_holds_314 ca, k_L_holds_316 ca, k_L_holds_319 ca, k_L_holds_320 ca, k_L_holds_321 ca, k_L_holds_323 ca, k_L_holds_326 ca, k_L_holds_329 ca, k_L_holds_330 ca, k_L_holds_333 ca, k_L_holds_334 ca, k_L_holds_337 ca, k_L_holds_338 ca, k_L_holds_341 ca, k_L_holds_342 ca, k_L_holds_344 ca, k_L_holds_346 ca, k_L_holds_349 ca, k_L_holds_352 ca, k_L_holds_354 ca, k_L_holds_357 ca, k_L_holds_360 ca, k_L_holds_361 ca, k_L_holds_362 ca, k_L_holds_365 ca, k_L_holds_368 ca, k_L_holds_369 ca, k_L_holds_370 ca, k_L_holds_371 ca, k_L_holds_374 ca, k_L_holds_376 ca, k_L_holds_379 ca, k_L_holds_382 ca, k_L_holds_383 ca, k_L_holds_384 ca, k_L_holds_386 ca, k_L_holds_389 ca, k_L_holds_390 ca, k_L_holds_391 ca, k_L_holds_392 ca, k_L_holds_395 ca, k_L_holds_398 ca, k_L_holds_399 ca, k_L_holds_400 ca, k_L_holds_401 ca, k_L_holds_404 ca, k_L_holds_405 ca, k_L_holds_406 ca, k_L_holds_409 ca, k_L_holds_412 ca, k_L_holds_413 ca, k_L_holds_416 ca, k_L_holds_417 ca, k_L_holds_419 ca, k_L_holds_421 ca, k_L_holds_424 ca, k_L_holds_426 ca, k_L_holds_429 ca, k_L_holds_431 ca, k_L_holds_434 ca, k_L_holds_435 ca, k_L_holds_436 ca, k_L_holds_439 ca, k_L_holds_442 ca, k_L_holds_443 ca, k_L_holds_444 ca, k_L_holds_445 ca, k_L_holds_448 ca, k_L_holds_451 ca, k_L_holds_452 ca, k_L_holds_453 ca, k_L_holds_456 ca, k_L_holds_458 ca, k_L_holds_461 ca, k_L_holds_462 ca, k_L_holds_465 ca, k_L_holds_466 ca, k_L_holds_467 ca, k_L_holds_468 ca, k_L_holds_471 ca, k_L_holds_473 ca, k_L_holds_476 ca, k_L_holds_477 ca, k_L_holds_480 ca, k_L_holds_481 ca, k_L_holds_484 ca, k_L_holds_485 ca, k_L_holds_488 ca, k_L_holds_489 ca, q1, one0]
      try clear hF hF0 F
      exact k0
    · have q0 : ¬ v0 = -10000004 := fun z => q (e0.mp z)
      show K 0 0 456 _ [.int v0] h1
      refine goN go (stp [471]) 160 _ _ _ _ _ _ (fun F hF hF0 => ?_)
      simp only [hF, hF0, ite_not, i_push, i_iload, i_lload, i_aload, i_istore, i_astore, i_lstore, i_iinc, i_bin, i_dv, i_un, i_lbin, i_lsh, i_i2l, i_l2i, i_lcmp, i_dup, i_dup2, i_pop, i_if, i_icmp, i_goto, swG, i_sw, i_getf, i_puti, i_putz, i_putr, i_ald, i_lald, i_aald, i_ast, i_last, i_aast, i_alen, i_new, i_newi, i_newl, i_newq, i_oinit, i_ret, i_zret, i_lret, i_vret, catS, tk, rpush, isO, i_m1, i_m2, i_acopy, i_callV, i_callS, KRet, lget, lput, lputL, lcl0, isL, lv0, List.map_cons, List.map_nil, List.length_cons, List.length_nil, List.cons_append, List.nil_append, Nat.reduceAdd, Nat.reduceSub, Nat.reduceLeDiff, List.replicate_succ, List.replicate_zero, List.getElem?_cons_succ, List.getElem?_cons_zero, List.set_cons_succ, List.set_cons_zero, true_and, and_true, if_true, if_false, ↓reduceIte, Nat.le_refl, Value.category, va_up_app, eq_self, stp, Nat.reduceBEq, Bool.or_false, Bool.false_or, Bool.true_or, Bool.or_true, or_true, true_or, bx_uu, implies_true, true_implies, not_true, not_false_eq_true, false_implies, and_self, Nat.reduceLT, Int32.reduceAdd, Int32.reduceSub, Int32.reduceMul, Int32.reduceLE, Int32.reduceLT, Int32.reduceToNatClampNeg, va_rf_some, Bool.false_eq_true, k_L_holds_0 ca, k_L_holds_1 ca, k_L_holds_2 ca, k_L_holds_3 ca, k_L_holds_4 ca, k_L_holds_5 ca, k_L_holds_6 ca, k_L_holds_9 ca, k_L_holds_10 ca, k_L_holds_12 ca, k_L_holds_13 ca, k_L_holds_15 ca, k_L_holds_16 ca, k_L_holds_17 ca, k_L_holds_18 ca, k_L_holds_21 ca, k_L_holds_23 ca, k_L_holds_24 ca, k_L_holds_26 ca, k_L_holds_28 ca, k_L_holds_29 ca, k_L_holds_30 ca, k_L_holds_31 ca, k_L_holds_34 ca, k_L_holds_37 ca, k_L_holds_39 ca, k_L_holds_40 ca, k_L_holds_41 ca, k_L_holds_43 ca, k_L_holds_44 ca, k_L_holds_47 ca, k_L_holds_48 ca, k_L_holds_50 ca, k_L_holds_52 ca, k_L_holds_53 ca, k_L_holds_54 ca, k_L_holds_56 ca, k_L_holds_57 ca, k_L_holds_60 ca, k_L_holds_61 ca, k_L_holds_63 ca, k_L_holds_64 ca, k_L_holds_65 ca, k_L_holds_67 ca, k_L_holds_68 ca, k_L_holds_71 ca, k_L_holds_72 ca, k_L_holds_73 ca, k_L_holds_75 ca, k_L_holds_76 ca, k_L_holds_79 ca, k_L_holds_80 ca, k_L_holds_82 ca, k_L_holds_83 ca, k_L_holds_84 ca, k_L_holds_86 ca, k_L_holds_87 ca, k_L_holds_90 ca, k_L_holds_91 ca, k_L_holds_94 ca, k_L_holds_95 ca, k_L_holds_97 ca, k_L_holds_98 ca, k_L_holds_99 ca, k_L_holds_101 ca, k_L_holds_102 ca, k_L_holds_105 ca, k_L_holds_106 ca, k_L_holds_109 ca, k_L_holds_110 ca, k_L_holds_111 ca, k_L_holds_114 ca, k_L_holds_115 ca, k_L_holds_116 ca, k_L_holds_119 ca, k_L_holds_122 ca, k_L_holds_123 ca, k_L_holds_124 ca, k_L_holds_125 ca, k_L_holds_127 ca, k_L_holds_130 ca, k_L_holds_131 ca, k_L_holds_132 ca, k_L_holds_133 ca, k_L_holds_134 ca, k_L_holds_135 ca, k_L_holds_136 ca, k_L_holds_139 ca, k_L_holds_141 ca, k_L_holds_142 ca, k_L_holds_143 ca, k_L_holds_145 ca, k_L_holds_148 ca, k_L_holds_150 ca, k_L_holds_152 ca, k_L_holds_154 ca, k_L_holds_157 ca, k_L_holds_158 ca, k_L_holds_161 ca, k_L_holds_162 ca, k_L_holds_163 ca, k_L_holds_165 ca, k_L_holds_168 ca, k_L_holds_170 ca, k_L_holds_172 ca, k_L_holds_174 ca, k_L_holds_177 ca, k_L_holds_179 ca, k_L_holds_182 ca, k_L_holds_184 ca, k_L_holds_185 ca, k_L_holds_186 ca, k_L_holds_187 ca, k_L_holds_190 ca, k_L_holds_193 ca, k_L_holds_196 ca, k_L_holds_198 ca, k_L_holds_199 ca, k_L_holds_200 ca, k_L_holds_201 ca, k_L_holds_204 ca, k_L_holds_207 ca, k_L_holds_208 ca, k_L_holds_211 ca, k_L_holds_212 ca, k_L_holds_214 ca, k_L_holds_215 ca, k_L_holds_216 ca, k_L_holds_217 ca, k_L_holds_220 ca, k_L_holds_222 ca, k_L_holds_225 ca, k_L_holds_226 ca, k_L_holds_227 ca, k_L_holds_228 ca, k_L_holds_231 ca, k_L_holds_233 ca, k_L_holds_236 ca, k_L_holds_237 ca, k_L_holds_238 ca, k_L_holds_239 ca, k_L_holds_242 ca, k_L_holds_244 ca, k_L_holds_246 ca, k_L_holds_249 ca, k_L_holds_250 ca, k_L_holds_251 ca, k_L_holds_254 ca, k_L_holds_255 ca, k_L_holds_256 ca, k_L_holds_258 ca, k_L_holds_261 ca, k_L_holds_262 ca, k_L_holds_263 ca, k_L_holds_264 ca, k_L_holds_267 ca, k_L_holds_270 ca, k_L_holds_271 ca, k_L_holds_272 ca, k_L_holds_273 ca, k_L_holds_276 ca, k_L_holds_277 ca, k_L_holds_278 ca, k_L_holds_279 ca, k_L_holds_282 ca, k_L_holds_285 ca, k_L_holds_286 ca, k_L_holds_287 ca, k_L_holds_289 ca, k_L_holds_292 ca, k_L_holds_293 ca, k_L_holds_296 ca, k_L_holds_297 ca, k_L_holds_298 ca, k_L_holds_300 ca, k_L_holds_303 ca, k_L_holds_304 ca, k_L_holds_307 ca, k_L_holds_308 ca, k_L_holds_311 ca, k_L_holds_312 ca, k_L_holds_313 ca, k_L_holds_314 ca, k_L_holds_316 ca, k_L_holds_319 ca, k_L_holds_320 ca, k_L_holds_321 ca, k_L_holds_323 ca, k_L_holds_326 ca, k_L_holds_329 ca, k_L_holds_330 ca, k_L_holds_333 ca, k_L_holds_334 ca, k_L_holds_337 ca, k_L_holds_338 ca, k_L_holds_341 ca, k_L_holds_342 ca, k_L_holds_344 ca, k_L_holds_346 ca, k_L_holds_349 ca, k_L_holds_352 ca, k_L_holds_354 ca, k_L_holds_357 ca, k_L_holds_360 ca, k_L_holds_361 ca, k_L_holds_362 ca, k_L_holds_365 ca, k_L_holds_368 ca, k_L_holds_369 ca, k_L_holds_370 ca, k_L_holds_371 ca, k_L_holds_374 ca, k_L_holds_376 ca, k_L_holds_379 ca, k_L_holds_382 ca, k_L_holds_383 ca, k_L_holds_384 ca, k_L_holds_386 ca, k_L_holds_389 ca, k_L_holds_390 ca, k_L_holds_391 ca, k_L_holds_392 ca, k_L_holds_395 ca, k_L_holds_398 ca, k_L_holds_399 ca, k_L_holds_400 ca, k_L_holds_401 ca, k_L_holds_404 ca, k_L_holds_405 ca, k_L_holds_406 ca, k_L_holds_409 ca, k_L_holds_412 ca, k_L_holds_413 ca, k_L_holds_416 ca, k_L_holds_417 ca, k_L_holds_419 ca, k_L_holds_421 ca, k_L_holds_424 ca, k_L_holds_426 ca, k_L_holds_429 ca, k_L_holds_431 ca, k_L_holds_434 ca, k_L_holds_435 ca, k_L_holds_436 ca, k_L_holds_439 ca, k_L_holds_442 ca, k_L_holds_443 ca, k_L_holds_444 ca, k_L_holds_445 ca, k_L_holds_448 ca, k_L_holds_451 ca, k_L_holds_452 ca, k_L_holds_453 ca, k_L_holds_456 ca, k_L_holds_458 ca, k_L_holds_461 ca, k_L_holds_462 ca, k_L_holds_465 ca, k_L_holds_466 ca, k_L_holds_467 ca, k_L_holds_468 ca, k_L_holds_471 ca, k_L_holds_473 ca, k_L_holds_476 ca, k_L_holds_477 ca, k_L_holds_480 ca, k_L_holds_481 ca, k_L_holds_484 ca, k_L_holds_485 ca, k_L_holds_488 ca, k_L_holds_489 ca, c71, q0]
      try clear hF hF0 F
      refine H1.loop (Or.inr rfl) (fun h2 v1 H2 e1 => ?_)
      have q1 : ¬ v1 = -10000004 := fun z => q (e1.mp z)
      show K 0 0 471 _ [.int v1, .int 0] h2
      have k0 := hs h2 H2
      refine goN go (stp []) 160 _ _ _ _ _ _ (fun F hF hF0 => ?_)
      simp only [hF, hF0, ite_not, i_push, i_iload, i_lload, i_aload, i_istore, i_astore, i_lstore, i_iinc, i_bin, i_dv, i_un, i_lbin, i_lsh, i_i2l, i_l2i, i_lcmp, i_dup, i_dup2, i_pop, i_if, i_icmp, i_goto, swG, i_sw, i_getf, i_puti, i_putz, i_putr, i_ald, i_lald, i_aald, i_ast, i_last, i_aast, i_alen, i_new, i_newi, i_newl, i_newq, i_oinit, i_ret, i_zret, i_lret, i_vret, catS, tk, rpush, isO, i_m1, i_m2, i_acopy, i_callV, i_callS, KRet, lget, lput, lputL, lcl0, isL, lv0, List.map_cons, List.map_nil, List.length_cons, List.length_nil, List.cons_append, List.nil_append, Nat.reduceAdd, Nat.reduceSub, Nat.reduceLeDiff, List.replicate_succ, List.replicate_zero, List.getElem?_cons_succ, List.getElem?_cons_zero, List.set_cons_succ, List.set_cons_zero, true_and, and_true, if_true, if_false, ↓reduceIte, Nat.le_refl, Value.category, va_up_app, eq_self, stp, Nat.reduceBEq, Bool.or_false, Bool.false_or, Bool.true_or, Bool.or_true, or_true, true_or, bx_uu, implies_true, true_implies, not_true, not_false_eq_true, false_implies, and_self, Nat.reduceLT, Int32.reduceAdd, Int32.reduceSub, Int32.reduceMul, Int32.reduceLE, Int32.reduceLT, Int32.reduceToNatClampNeg, va_rf_some, Bool.false_eq_true, k_L_holds_0 ca, k_L_holds_1 ca, k_L_holds_2 ca, k_L_holds_3 ca, k_L_holds_4 ca, k_L_holds_5 ca, k_L_holds_6 ca, k_L_holds_9 ca, k_L_holds_10 ca, k_L_holds_12 ca, k_L_holds_13 ca, k_L_holds_15 ca, k_L_holds_16 ca, k_L_holds_17 ca, k_L_holds_18 ca, k_L_holds_21 ca, k_L_holds_23 ca, k_L_holds_24 ca, k_L_holds_26 ca, k_L_holds_28 ca, k_L_holds_29 ca, k_L_holds_30 ca, k_L_holds_31 ca, k_L_holds_34 ca, k_L_holds_37 ca, k_L_holds_39 ca, k_L_holds_40 ca, k_L_holds_41 ca, k_L_holds_43 ca, k_L_holds_44 ca, k_L_holds_47 ca, k_L_holds_48 ca, k_L_holds_50 ca, k_L_holds_52 ca, k_L_holds_53 ca, k_L_holds_54 ca, k_L_holds_56 ca, k_L_holds_57 ca, k_L_holds_60 ca, k_L_holds_61 ca, k_L_holds_63 ca, k_L_holds_64 ca, k_L_holds_65 ca, k_L_holds_67 ca, k_L_holds_68 ca, k_L_holds_71 ca, k_L_holds_72 ca, k_L_holds_73 ca, k_L_holds_75 ca, k_L_holds_76 ca, k_L_holds_79 ca, k_L_holds_80 ca, k_L_holds_82 ca, k_L_holds_83 ca, k_L_holds_84 ca, k_L_holds_86 ca, k_L_holds_87 ca, k_L_holds_90 ca, k_L_holds_91 ca, k_L_holds_94 ca, k_L_holds_95 ca, k_L_holds_97 ca, k_L_holds_98 ca, k_L_holds_99 ca, k_L_holds_101 ca, k_L_holds_102 ca, k_L_holds_105 ca, k_L_holds_106 ca, k_L_holds_109 ca, k_L_holds_110 ca, k_L_holds_111 ca, k_L_holds_114 ca, k_L_holds_115 ca, k_L_holds_116 ca, k_L_holds_119 ca, k_L_holds_122 ca, k_L_holds_123 ca, k_L_holds_124 ca, k_L_holds_125 ca, k_L_holds_127 ca, k_L_holds_130 ca, k_L_holds_131 ca, k_L_holds_132 ca, k_L_holds_133 ca, k_L_holds_134 ca, k_L_holds_135 ca, k_L_holds_136 ca, k_L_holds_139 ca, k_L_holds_141 ca, k_L_holds_142 ca, k_L_holds_143 ca, k_L_holds_145 ca, k_L_holds_148 ca, k_L_holds_150 ca, k_L_holds_152 ca, k_L_holds_154 ca, k_L_holds_157 ca, k_L_holds_158 ca, k_L_holds_161 ca, k_L_holds_162 ca, k_L_holds_163 ca, k_L_holds_165 ca, k_L_holds_168 ca, k_L_holds_170 ca, k_L_holds_172 ca, k_L_holds_174 ca, k_L_holds_177 ca, k_L_holds_179 ca, k_L_holds_182 ca, k_L_holds_184 ca, k_L_holds_185 ca, k_L_holds_186 ca, k_L_holds_187 ca, k_L_holds_190 ca, k_L_holds_193 ca, k_L_holds_196 ca, k_L_holds_198 ca, k_L_holds_199 ca, k_L_holds_200 ca, k_L_holds_201 ca, k_L_holds_204 ca, k_L_holds_207 ca, k_L_holds_208 ca, k_L_holds_211 ca, k_L_holds_212 ca, k_L_holds_214 ca, k_L_holds_215 ca, k_L_holds_216 ca, k_L_holds_217 ca, k_L_holds_220 ca, k_L_holds_222 ca, k_L_holds_225 ca, k_L_holds_226 ca, k_L_holds_227 ca, k_L_holds_228 ca, k_L_holds_231 ca, k_L_holds_233 ca, k_L_holds_236 ca, k_L_holds_237 ca, k_L_holds_238 ca, k_L_holds_239 ca, k_L_holds_242 ca, k_L_holds_244 ca, k_L_holds_246 ca, k_L_holds_249 ca, k_L_holds_250 ca, k_L_holds_251 ca, k_L_holds_254 ca, k_L_holds_255 ca, k_L_holds_256 ca, k_L_holds_258 ca, k_L_holds_261 ca, k_L_holds_262 ca, k_L_holds_263 ca, k_L_holds_264 ca, k_L_holds_267 ca, k_L_holds_270 ca, k_L_holds_271 ca, k_L_holds_272 ca, k_L_holds_273 ca, k_L_holds_276 ca, k_L_holds_277 ca, k_L_holds_278 ca, k_L_holds_279 ca, k_L_holds_282 ca, k_L_holds_285 ca, k_L_holds_286 ca, k_L_holds_287 ca, k_L_holds_289 ca, k_L_holds_292 ca, k_L_holds_293 ca, k_L_holds_296 ca, k_L_holds_297 ca, k_L_holds_298 ca, k_L_holds_300 ca, k_L_holds_303 ca, k_L_holds_304 ca, k_L_holds_307 ca, k_L_holds_308 ca, k_L_holds_311 ca, k_L_holds_312 ca, k_L_holds_313 ca, k_L_holds_314 ca, k_L_holds_316 ca, k_L_holds_319 ca, k_L_holds_320 ca, k_L_holds_321 ca, k_L_holds_323 ca, k_L_holds_326 ca, k_L_holds_329 ca, k_L_holds_330 ca, k_L_holds_333 ca, k_L_holds_334 ca, k_L_holds_337 ca, k_L_holds_338 ca, k_L_holds_341 ca, k_L_holds_342 ca, k_L_holds_344 ca, k_L_holds_346 ca, k_L_holds_349 ca, k_L_holds_352 ca, k_L_holds_354 ca, k_L_holds_357 ca, k_L_holds_360 ca, k_L_holds_361 ca, k_L_holds_362 ca, k_L_holds_365 ca, k_L_holds_368 ca, k_L_holds_369 ca, k_L_holds_370 ca, k_L_holds_371 ca, k_L_holds_374 ca, k_L_holds_376 ca, k_L_holds_379 ca, k_L_holds_382 ca, k_L_holds_383 ca, k_L_holds_384 ca, k_L_holds_386 ca, k_L_holds_389 ca, k_L_holds_390 ca, k_L_holds_391 ca, k_L_holds_392 ca, k_L_holds_395 ca, k_L_holds_398 ca, k_L_holds_399 ca, k_L_holds_400 ca, k_L_holds_401 ca, k_L_holds_404 ca, k_L_holds_405 ca, k_L_holds_406 ca, k_L_holds_409 ca, k_L_holds_412 ca, k_L_holds_413 ca, k_L_holds_416 ca, k_L_holds_417 ca, k_L_holds_419 ca, k_L_holds_421 ca, k_L_holds_424 ca, k_L_holds_426 ca, k_L_holds_429 ca, k_L_holds_431 ca, k_L_holds_434 ca, k_L_holds_435 ca, k_L_holds_436 ca, k_L_holds_439 ca, k_L_holds_442 ca, k_L_holds_443 ca, k_L_holds_444 ca, k_L_holds_445 ca, k_L_holds_448 ca, k_L_holds_451 ca, k_L_holds_452 ca, k_L_holds_453 ca, k_L_holds_456 ca, k_L_holds_458 ca, k_L_holds_461 ca, k_L_holds_462 ca, k_L_holds_465 ca, k_L_holds_466 ca, k_L_holds_467 ca, k_L_holds_468 ca, k_L_holds_471 ca, k_L_holds_473 ca, k_L_holds_476 ca, k_L_holds_477 ca, k_L_holds_480 ca, k_L_holds_481 ca, k_L_holds_484 ca, k_L_holds_485 ca, k_L_holds_488 ca, k_L_holds_489 ca, q1, one0]
      try clear hF hF0 F
      exact k0
  have k0 := body 0 (by decide) 0 (body 1 (by decide) _ (body 2 (by decide) _ last))
  rw [nI_0] at k0
  refine goN go (stp [4]) 160 _ _ _ _ _ _ (fun F hF hF0 => ?_)
  simp only [hF, hF0, ite_not, i_push, i_iload, i_lload, i_aload, i_istore, i_astore, i_lstore, i_iinc, i_bin, i_dv, i_un, i_lbin, i_lsh, i_i2l, i_l2i, i_lcmp, i_dup, i_dup2, i_pop, i_if, i_icmp, i_goto, swG, i_sw, i_getf, i_puti, i_putz, i_putr, i_ald, i_lald, i_aald, i_ast, i_last, i_aast, i_alen, i_new, i_newi, i_newl, i_newq, i_oinit, i_ret, i_zret, i_lret, i_vret, catS, tk, rpush, isO, i_m1, i_m2, i_acopy, i_callV, i_callS, KRet, lget, lput, lputL, lcl0, isL, lv0, List.map_cons, List.map_nil, List.length_cons, List.length_nil, List.cons_append, List.nil_append, Nat.reduceAdd, Nat.reduceSub, Nat.reduceLeDiff, List.replicate_succ, List.replicate_zero, List.getElem?_cons_succ, List.getElem?_cons_zero, List.set_cons_succ, List.set_cons_zero, true_and, and_true, if_true, if_false, ↓reduceIte, Nat.le_refl, Value.category, va_up_app, eq_self, stp, Nat.reduceBEq, Bool.or_false, Bool.false_or, Bool.true_or, Bool.or_true, or_true, true_or, bx_uu, implies_true, true_implies, not_true, not_false_eq_true, false_implies, and_self, Nat.reduceLT, Int32.reduceAdd, Int32.reduceSub, Int32.reduceMul, Int32.reduceLE, Int32.reduceLT, Int32.reduceToNatClampNeg, va_rf_some, Bool.false_eq_true, k_L_holds_0 ca, k_L_holds_1 ca, k_L_holds_2 ca, k_L_holds_3 ca, k_L_holds_4 ca, k_L_holds_5 ca, k_L_holds_6 ca, k_L_holds_9 ca, k_L_holds_10 ca, k_L_holds_12 ca, k_L_holds_13 ca, k_L_holds_15 ca, k_L_holds_16 ca, k_L_holds_17 ca, k_L_holds_18 ca, k_L_holds_21 ca, k_L_holds_23 ca, k_L_holds_24 ca, k_L_holds_26 ca, k_L_holds_28 ca, k_L_holds_29 ca, k_L_holds_30 ca, k_L_holds_31 ca, k_L_holds_34 ca, k_L_holds_37 ca, k_L_holds_39 ca, k_L_holds_40 ca, k_L_holds_41 ca, k_L_holds_43 ca, k_L_holds_44 ca, k_L_holds_47 ca, k_L_holds_48 ca, k_L_holds_50 ca, k_L_holds_52 ca, k_L_holds_53 ca, k_L_holds_54 ca, k_L_holds_56 ca, k_L_holds_57 ca, k_L_holds_60 ca, k_L_holds_61 ca, k_L_holds_63 ca, k_L_holds_64 ca, k_L_holds_65 ca, k_L_holds_67 ca, k_L_holds_68 ca, k_L_holds_71 ca, k_L_holds_72 ca, k_L_holds_73 ca, k_L_holds_75 ca, k_L_holds_76 ca, k_L_holds_79 ca, k_L_holds_80 ca, k_L_holds_82 ca, k_L_holds_83 ca, k_L_holds_84 ca, k_L_holds_86 ca, k_L_holds_87 ca, k_L_holds_90 ca, k_L_holds_91 ca, k_L_holds_94 ca, k_L_holds_95 ca, k_L_holds_97 ca, k_L_holds_98 ca, k_L_holds_99 ca, k_L_holds_101 ca, k_L_holds_102 ca, k_L_holds_105 ca, k_L_holds_106 ca, k_L_holds_109 ca, k_L_holds_110 ca, k_L_holds_111 ca, k_L_holds_114 ca, k_L_holds_115 ca, k_L_holds_116 ca, k_L_holds_119 ca, k_L_holds_122 ca, k_L_holds_123 ca, k_L_holds_124 ca, k_L_holds_125 ca, k_L_holds_127 ca, k_L_holds_130 ca, k_L_holds_131 ca, k_L_holds_132 ca, k_L_holds_133 ca, k_L_holds_134 ca, k_L_holds_135 ca, k_L_holds_136 ca, k_L_holds_139 ca, k_L_holds_141 ca, k_L_holds_142 ca, k_L_holds_143 ca, k_L_holds_145 ca, k_L_holds_148 ca, k_L_holds_150 ca, k_L_holds_152 ca, k_L_holds_154 ca, k_L_holds_157 ca, k_L_holds_158 ca, k_L_holds_161 ca, k_L_holds_162 ca, k_L_holds_163 ca, k_L_holds_165 ca, k_L_holds_168 ca, k_L_holds_170 ca, k_L_holds_172 ca, k_L_holds_174 ca, k_L_holds_177 ca, k_L_holds_179 ca, k_L_holds_182 ca, k_L_holds_184 ca, k_L_holds_185 ca, k_L_holds_186 ca, k_L_holds_187 ca, k_L_holds_190 ca, k_L_holds_193 ca, k_L_holds_196 ca, k_L_holds_198 ca, k_L_holds_199 ca, k_L_holds_200 ca, k_L_holds_201 ca, k_L_holds_204 ca, k_L_holds_207 ca, k_L_holds_208 ca, k_L_holds_211 ca, k_L_holds_212 ca, k_L_holds_214 ca, k_L_holds_215 ca, k_L_holds_216 ca, k_L_holds_217 ca, k_L_holds_220 ca, k_L_holds_222 ca, k_L_holds_225 ca, k_L_holds_226 ca, k_L_holds_227 ca, k_L_holds_228 ca, k_L_holds_231 ca, k_L_holds_233 ca, k_L_holds_236 ca, k_L_holds_237 ca, k_L_holds_238 ca, k_L_holds_239 ca, k_L_holds_242 ca, k_L_holds_244 ca, k_L_holds_246 ca, k_L_holds_249 ca, k_L_holds_250 ca, k_L_holds_251 ca, k_L_holds_254 ca, k_L_holds_255 ca, k_L_holds_256 ca, k_L_holds_258 ca, k_L_holds_261 ca, k_L_holds_262 ca, k_L_holds_263 ca, k_L_holds_264 ca, k_L_holds_267 ca, k_L_holds_270 ca, k_L_holds_271 ca, k_L_holds_272 ca, k_L_holds_273 ca, k_L_holds_276 ca, k_L_holds_277 ca, k_L_holds_278 ca, k_L_holds_279 ca, k_L_holds_282 ca, k_L_holds_285 ca, k_L_holds_286 ca, k_L_holds_287 ca, k_L_holds_289 ca, k_L_holds_292 ca, k_L_holds_293 ca, k_L_holds_296 ca, k_L_holds_297 ca, k_L_holds_298 ca, k_L_holds_300 ca, k_L_holds_303 ca, k_L_holds_304 ca, k_L_holds_307 ca, k_L_holds_308 ca, k_L_holds_311 ca, k_L_holds_312 ca, k_L_holds_313 ca, k_L_holds_314 ca, k_L_holds_316 ca, k_L_holds_319 ca, k_L_holds_320 ca, k_L_holds_321 ca, k_L_holds_323 ca, k_L_holds_326 ca, k_L_holds_329 ca, k_L_holds_330 ca, k_L_holds_333 ca, k_L_holds_334 ca, k_L_holds_337 ca, k_L_holds_338 ca, k_L_holds_341 ca, k_L_holds_342 ca, k_L_holds_344 ca, k_L_holds_346 ca, k_L_holds_349 ca, k_L_holds_352 ca, k_L_holds_354 ca, k_L_holds_357 ca, k_L_holds_360 ca, k_L_holds_361 ca, k_L_holds_362 ca, k_L_holds_365 ca, k_L_holds_368 ca, k_L_holds_369 ca, k_L_holds_370 ca, k_L_holds_371 ca, k_L_holds_374 ca, k_L_holds_376 ca, k_L_holds_379 ca, k_L_holds_382 ca, k_L_holds_383 ca, k_L_holds_384 ca, k_L_holds_386 ca, k_L_holds_389 ca, k_L_holds_390 ca, k_L_holds_391 ca, k_L_holds_392 ca, k_L_holds_395 ca, k_L_holds_398 ca, k_L_holds_399 ca, k_L_holds_400 ca, k_L_holds_401 ca, k_L_holds_404 ca, k_L_holds_405 ca, k_L_holds_406 ca, k_L_holds_409 ca, k_L_holds_412 ca, k_L_holds_413 ca, k_L_holds_416 ca, k_L_holds_417 ca, k_L_holds_419 ca, k_L_holds_421 ca, k_L_holds_424 ca, k_L_holds_426 ca, k_L_holds_429 ca, k_L_holds_431 ca, k_L_holds_434 ca, k_L_holds_435 ca, k_L_holds_436 ca, k_L_holds_439 ca, k_L_holds_442 ca, k_L_holds_443 ca, k_L_holds_444 ca, k_L_holds_445 ca, k_L_holds_448 ca, k_L_holds_451 ca, k_L_holds_452 ca, k_L_holds_453 ca, k_L_holds_456 ca, k_L_holds_458 ca, k_L_holds_461 ca, k_L_holds_462 ca, k_L_holds_465 ca, k_L_holds_466 ca, k_L_holds_467 ca, k_L_holds_468 ca, k_L_holds_471 ca, k_L_holds_473 ca, k_L_holds_476 ca, k_L_holds_477 ca, k_L_holds_480 ca, k_L_holds_481 ca, k_L_holds_484 ca, k_L_holds_485 ca, k_L_holds_488 ca, k_L_holds_489 ca]
  try clear hF hF0 F
  exact k0 _ _ _ _ _ _ _ _ _
