/-! the reference's constructor -/
def s0R : Nat → Int32 := fun j => if j < 6 then 5 * nI j else if j = 7 then 50 else if j = 8 then 100 else if j = 11 ∨ j = 43 ∨ j = 75 then 1000 else if j = 12 ∨ j = 44 ∨ j = 76 then 3000 else if j = 106 ∨ j = 113 ∨ j = 120 then 200 else if j = 108 ∨ j = 115 ∨ j = 122 then 20 else 0
def sp_X8_init (ca : Nat → ClassId) : SPEC := fun av h post => ∃ a, av = [.ref a] ∧ h a = some (.inr (8, [.null, .null, .null, .int 0, .null, .int 0, .null, .null, .null, .null, .null, .null, .int 0, .int 0, .int 0])) ∧
  ∀ H Q s, Q 0 = a → Bk h H Q 11 → H (Q 0) = some (.inr (8, [.ref (Q 1), .ref (Q 2), .ref (Q 3), .int 0, .ref (Q 4), .int 0, .ref (Q 5), .ref (Q 6), .ref (Q 7), .ref (Q 8), .ref (Q 9), .ref (Q 10), .int 0, .int 0, .int 0])) → H (Q 1) = some (.inl (ca 0, 127, .inl s)) → (∀ j, j < 127 → s j = s0R j) → H (Q 2) = some (.inl (ca 0, 127, .inl (fun _ => 0))) → H (Q 3) = some (.inl (ca 0, 508, .inl (fun _ => 0))) → H (Q 4) = some (.inl (ca 0, 60, .inl (fun _ => 0))) → H (Q 5) = some (.inl (ca 0, 3, .inl (fun _ => 0))) → H (Q 6) = some (.inl (ca 1, 1501, .inr (.inl (fun _ => 0)))) → H (Q 7) = some (.inl (ca 0, 1501, .inl (fun _ => 0))) → H (Q 8) = some (.inl (ca 2, 61, .inl (fun _ => 0))) → H (Q 9) = some (.inl (ca 2, 18377, .inl (fun _ => 0))) → H (Q 10) = some (.inl (ca 0, 9, .inl (fun _ => 0))) → post none H
def k_X8_init (ca : Nat → ClassId) : Nat → IT := fun pc => if pc < 82 then lk pc [(0, i_aload 0 1),
  (1, i_oinit 4),
  (4, i_aload 0 5),
  (5, i_push (.int 127) 7),
  (7, i_newi 10 22274 (ca 0) 127 9),
  (9, i_putr 8 0 12),
  (12, i_aload 0 13),
  (13, i_push (.int 127) 15),
  (15, i_newi 10 22274 (ca 0) 127 17),
  (17, i_putr 8 1 20),
  (20, i_aload 0 21),
  (21, i_push (.int 508) 24),
  (24, i_newi 10 22274 (ca 0) 508 26),
  (26, i_putr 8 2 29),
  (29, i_aload 0 30),
  (30, i_push (.int 60) 32),
  (32, i_newi 10 22274 (ca 0) 60 34),
  (34, i_putr 8 4 37),
  (37, i_aload 0 38),
  (38, i_push (.int 3) 39),
  (39, i_newi 10 22274 (ca 0) 3 41),
  (41, i_putr 8 6 44),
  (44, i_aload 0 45),
  (45, i_push (.int 1501) 48),
  (48, i_newl 10 22274 (ca 1) 1501 50),
  (50, i_putr 8 7 53),
  (53, i_aload 0 54),
  (54, i_push (.int 1501) 57),
  (57, i_newi 10 22274 (ca 0) 1501 59),
  (59, i_putr 8 8 62),
  (62, i_aload 0 63),
  (63, i_push (.int 61) 65),
  (65, i_newi 10 22274 (ca 2) 61 67),
  (67, i_putr 8 9 70),
  (70, i_aload 0 71),
  (71, i_push (.int 18377) 74),
  (74, i_newi 10 22274 (ca 2) 18377 76),
  (76, i_putr 8 10 79),
  (79, i_aload 0 80),
  (80, i_push (.int 9) 82)] else
  if pc < 150 then lk pc [(82, i_newi 10 22274 (ca 0) 9 84),
  (84, i_putr 8 11 87),
  (87, i_push (.int 0) 88),
  (88, i_istore 1 89),
  (89, i_iload 1 90),
  (90, i_push (.int 6) 92),
  (92, i_icmp (fun x y => y ≤ x) 112 95),
  (95, i_aload 0 96),
  (96, i_getf 8 0 99),
  (99, i_push (.int 0) 100),
  (100, i_iload 1 101),
  (101, i_bin (fun x y => x + y) 102),
  (102, i_push (.int 5) 103),
  (103, i_iload 1 104),
  (104, i_bin (fun x y => x * y) 105),
  (105, i_ast (fun x => x) (ca 0) 106),
  (106, i_iinc 1 1 109),
  (109, i_goto 89),
  (112, i_aload 0 113),
  (113, i_getf 8 0 116),
  (116, i_push (.int 7) 118),
  (118, i_push (.int 50) 120),
  (120, i_ast (fun x => x) (ca 0) 121),
  (121, i_aload 0 122),
  (122, i_getf 8 0 125),
  (125, i_push (.int 8) 127),
  (127, i_push (.int 100) 129),
  (129, i_ast (fun x => x) (ca 0) 130),
  (130, i_push (.int 0) 131),
  (131, i_istore 1 132),
  (132, i_iload 1 133),
  (133, i_push (.int 3) 134),
  (134, i_icmp (fun x y => y ≤ x) 198 137),
  (137, i_aload 0 138),
  (138, i_getf 8 0 141),
  (141, i_iload 1 142),
  (142, i_callS 1 0 0 10 22274 (sp_X8_stripAt ca) 145),
  (145, i_push (.int 1) 146),
  (146, i_bin (fun x y => x + y) 147),
  (147, i_push (.int 1000) 150)] else
  lk pc [(150, i_ast (fun x => x) (ca 0) 151),
  (151, i_aload 0 152),
  (152, i_getf 8 0 155),
  (155, i_iload 1 156),
  (156, i_callS 1 0 0 10 22274 (sp_X8_stripAt ca) 159),
  (159, i_push (.int 2) 160),
  (160, i_bin (fun x y => x + y) 161),
  (161, i_push (.int 3000) 164),
  (164, i_ast (fun x => x) (ca 0) 165),
  (165, i_aload 0 166),
  (166, i_getf 8 0 169),
  (169, i_iload 1 170),
  (170, i_callS 1 0 0 10 22274 (sp_X8_roomAt ca) 173),
  (173, i_push (.int 0) 174),
  (174, i_bin (fun x y => x + y) 175),
  (175, i_push (.int 200) 178),
  (178, i_ast (fun x => x) (ca 0) 179),
  (179, i_aload 0 180),
  (180, i_getf 8 0 183),
  (183, i_iload 1 184),
  (184, i_callS 1 0 0 10 22274 (sp_X8_roomAt ca) 187),
  (187, i_push (.int 2) 188),
  (188, i_bin (fun x y => x + y) 189),
  (189, i_push (.int 20) 191),
  (191, i_ast (fun x => x) (ca 0) 192),
  (192, i_iinc 1 1 195),
  (195, i_goto 132),
  (198, i_vret)]
set_option maxRecDepth 20000 in
theorem t_X8_init : Tb k_X8_init yX8_init cX8_init 2 none 1 10 22274 := by
  intro l D ca A p e s m args below meth c post X
  unfold k_X8_init
  refine snd_split (82) ?_ ?_
  · refine snd_cons (snd_aload_n X dX8_init_0 rfl) ?_
    refine snd_cons (snd_oinit X w_640 w_19 w_20 (by decide) (by decide) dX8_init_1) ?_
    refine snd_cons (snd_aload_n X dX8_init_4 rfl) ?_
    refine snd_cons (snd_bipush X dX8_init_5 (by decide)) ?_
    refine snd_cons (snd_newi X 0 (atype := .int) rfl rfl rfl rfl rfl w_84 (by decide) dX8_init_7) ?_
    refine snd_cons (snd_putr X Fk8 0 (by decide) rfl rfl (fun _ => ⟨rfl, rfl⟩) w_647 dX8_init_9) ?_
    refine snd_cons (snd_aload_n X dX8_init_12 rfl) ?_
    refine snd_cons (snd_bipush X dX8_init_13 (by decide)) ?_
    refine snd_cons (snd_newi X 0 (atype := .int) rfl rfl rfl rfl rfl w_84 (by decide) dX8_init_15) ?_
    refine snd_cons (snd_putr X Fk8 1 (by decide) rfl rfl (fun _ => ⟨rfl, rfl⟩) w_648 dX8_init_17) ?_
    refine snd_cons (snd_aload_n X dX8_init_20 rfl) ?_
    refine snd_cons (snd_sipush X dX8_init_21 (by decide)) ?_
    refine snd_cons (snd_newi X 0 (atype := .int) rfl rfl rfl rfl rfl w_84 (by decide) dX8_init_24) ?_
    refine snd_cons (snd_putr X Fk8 2 (by decide) rfl rfl (fun _ => ⟨rfl, rfl⟩) w_649 dX8_init_26) ?_
    refine snd_cons (snd_aload_n X dX8_init_29 rfl) ?_
    refine snd_cons (snd_bipush X dX8_init_30 (by decide)) ?_
    refine snd_cons (snd_newi X 0 (atype := .int) rfl rfl rfl rfl rfl w_84 (by decide) dX8_init_32) ?_
    refine snd_cons (snd_putr X Fk8 4 (by decide) rfl rfl (fun _ => ⟨rfl, rfl⟩) w_651 dX8_init_34) ?_
    refine snd_cons (snd_aload_n X dX8_init_37 rfl) ?_
    refine snd_cons (snd_iconst X dX8_init_38 (by decide)) ?_
    refine snd_cons (snd_newi X 0 (atype := .int) rfl rfl rfl rfl rfl w_84 (by decide) dX8_init_39) ?_
    refine snd_cons (snd_putr X Fk8 6 (by decide) rfl rfl (fun _ => ⟨rfl, rfl⟩) w_653 dX8_init_41) ?_
    refine snd_cons (snd_aload_n X dX8_init_44 rfl) ?_
    refine snd_cons (snd_sipush X dX8_init_45 (by decide)) ?_
    refine snd_cons (snd_newl X (atype := .long) rfl rfl rfl w_227 (by decide) dX8_init_48) ?_
    refine snd_cons (snd_putr X Fk8 7 (by decide) rfl rfl (fun _ => ⟨rfl, rfl⟩) w_654 dX8_init_50) ?_
    refine snd_cons (snd_aload_n X dX8_init_53 rfl) ?_
    refine snd_cons (snd_sipush X dX8_init_54 (by decide)) ?_
    refine snd_cons (snd_newi X 0 (atype := .int) rfl rfl rfl rfl rfl w_84 (by decide) dX8_init_57) ?_
    refine snd_cons (snd_putr X Fk8 8 (by decide) rfl rfl (fun _ => ⟨rfl, rfl⟩) w_655 dX8_init_59) ?_
    refine snd_cons (snd_aload_n X dX8_init_62 rfl) ?_
    refine snd_cons (snd_bipush X dX8_init_63 (by decide)) ?_
    refine snd_cons (snd_newi X 2 (atype := .boolean) rfl rfl rfl rfl rfl w_693 (by decide) dX8_init_65) ?_
    refine snd_cons (snd_putr X Fk8 9 (by decide) rfl rfl (fun _ => ⟨rfl, rfl⟩) w_656 dX8_init_67) ?_
    refine snd_cons (snd_aload_n X dX8_init_70 rfl) ?_
    refine snd_cons (snd_sipush X dX8_init_71 (by decide)) ?_
    refine snd_cons (snd_newi X 2 (atype := .boolean) rfl rfl rfl rfl rfl w_693 (by decide) dX8_init_74) ?_
    refine snd_cons (snd_putr X Fk8 10 (by decide) rfl rfl (fun _ => ⟨rfl, rfl⟩) w_657 dX8_init_76) ?_
    refine snd_cons (snd_aload_n X dX8_init_79 rfl) ?_
    refine snd_cons (snd_bipush X dX8_init_80 (by decide)) ?_
    exact snd_nil
  refine snd_split (150) ?_ ?_
  · refine snd_cons (snd_newi X 0 (atype := .int) rfl rfl rfl rfl rfl w_84 (by decide) dX8_init_82) ?_
    refine snd_cons (snd_putr X Fk8 11 (by decide) rfl rfl (fun _ => ⟨rfl, rfl⟩) w_658 dX8_init_84) ?_
    refine snd_cons (snd_iconst X dX8_init_87 (by decide)) ?_
    refine snd_cons (snd_istore_n X dX8_init_88 rfl (by decide)) ?_
    refine snd_cons (snd_iload_n X dX8_init_89 rfl) ?_
    refine snd_cons (snd_bipush X dX8_init_90 (by decide)) ?_
    refine snd_cons (snd_icmp_ge X dX8_init_92 (by decide)) ?_
    refine snd_cons (snd_aload_n X dX8_init_95 rfl) ?_
    refine snd_cons (snd_getf X Fk8 0 (by decide) w_647 dX8_init_96) ?_
    refine snd_cons (snd_iconst X dX8_init_99 (by decide)) ?_
    refine snd_cons (snd_iload_n X dX8_init_100 rfl) ?_
    refine snd_cons (snd_iadd X dX8_init_101) ?_
    refine snd_cons (snd_iconst X dX8_init_102 (by decide)) ?_
    refine snd_cons (snd_iload_n X dX8_init_103 rfl) ?_
    refine snd_cons (snd_imul X dX8_init_104) ?_
    refine snd_cons (snd_iastore X dX8_init_105) ?_
    refine snd_cons (snd_iinc X dX8_init_106 (by decide) (by decide)) ?_
    refine snd_cons (snd_goto X dX8_init_109 (by decide)) ?_
    refine snd_cons (snd_aload_n X dX8_init_112 rfl) ?_
    refine snd_cons (snd_getf X Fk8 0 (by decide) w_647 dX8_init_113) ?_
    refine snd_cons (snd_bipush X dX8_init_116 (by decide)) ?_
    refine snd_cons (snd_bipush X dX8_init_118 (by decide)) ?_
    refine snd_cons (snd_iastore X dX8_init_120) ?_
    refine snd_cons (snd_aload_n X dX8_init_121 rfl) ?_
    refine snd_cons (snd_getf X Fk8 0 (by decide) w_647 dX8_init_122) ?_
    refine snd_cons (snd_bipush X dX8_init_125 (by decide)) ?_
    refine snd_cons (snd_bipush X dX8_init_127 (by decide)) ?_
    refine snd_cons (snd_iastore X dX8_init_129) ?_
    refine snd_cons (snd_iconst X dX8_init_130 (by decide)) ?_
    refine snd_cons (snd_istore_n X dX8_init_131 rfl (by decide)) ?_
    refine snd_cons (snd_iload_n X dX8_init_132 rfl) ?_
    refine snd_cons (snd_iconst X dX8_init_133 (by decide)) ?_
    refine snd_cons (snd_icmp_ge X dX8_init_134 (by decide)) ?_
    refine snd_cons (snd_aload_n X dX8_init_137 rfl) ?_
    refine snd_cons (snd_getf X Fk8 0 (by decide) w_647 dX8_init_138) ?_
    refine snd_cons (snd_iload_n X dX8_init_141 rfl) ?_
    refine snd_cons (snd_callS X (ok_X8_stripAt l D ca) rfl rfl w_641 w_642 w_9 w_643 (by decide) (by decide) dX8_init_142) ?_
    refine snd_cons (snd_iconst X dX8_init_145 (by decide)) ?_
    refine snd_cons (snd_iadd X dX8_init_146) ?_
    refine snd_cons (snd_sipush X dX8_init_147 (by decide)) ?_
    exact snd_nil
  refine snd_cons (snd_iastore X dX8_init_150) ?_
  refine snd_cons (snd_aload_n X dX8_init_151 rfl) ?_
  refine snd_cons (snd_getf X Fk8 0 (by decide) w_647 dX8_init_152) ?_
  refine snd_cons (snd_iload_n X dX8_init_155 rfl) ?_
  refine snd_cons (snd_callS X (ok_X8_stripAt l D ca) rfl rfl w_641 w_642 w_9 w_643 (by decide) (by decide) dX8_init_156) ?_
  refine snd_cons (snd_iconst X dX8_init_159 (by decide)) ?_
  refine snd_cons (snd_iadd X dX8_init_160) ?_
  refine snd_cons (snd_sipush X dX8_init_161 (by decide)) ?_
  refine snd_cons (snd_iastore X dX8_init_164) ?_
  refine snd_cons (snd_aload_n X dX8_init_165 rfl) ?_
  refine snd_cons (snd_getf X Fk8 0 (by decide) w_647 dX8_init_166) ?_
  refine snd_cons (snd_iload_n X dX8_init_169 rfl) ?_
  refine snd_cons (snd_callS X (ok_X8_roomAt l D ca) rfl rfl w_644 w_645 w_9 w_646 (by decide) (by decide) dX8_init_170) ?_
  refine snd_cons (snd_iconst X dX8_init_173 (by decide)) ?_
  refine snd_cons (snd_iadd X dX8_init_174) ?_
  refine snd_cons (snd_sipush X dX8_init_175 (by decide)) ?_
  refine snd_cons (snd_iastore X dX8_init_178) ?_
  refine snd_cons (snd_aload_n X dX8_init_179 rfl) ?_
  refine snd_cons (snd_getf X Fk8 0 (by decide) w_647 dX8_init_180) ?_
  refine snd_cons (snd_iload_n X dX8_init_183 rfl) ?_
  refine snd_cons (snd_callS X (ok_X8_roomAt l D ca) rfl rfl w_644 w_645 w_9 w_646 (by decide) (by decide) dX8_init_184) ?_
  refine snd_cons (snd_iconst X dX8_init_187 (by decide)) ?_
  refine snd_cons (snd_iadd X dX8_init_188) ?_
  refine snd_cons (snd_bipush X dX8_init_189 (by decide)) ?_
  refine snd_cons (snd_iastore X dX8_init_191) ?_
  refine snd_cons (snd_iinc X dX8_init_192 (by decide) (by decide)) ?_
  refine snd_cons (snd_goto X dX8_init_195 (by decide)) ?_
  refine snd_cons (snd_vret X dX8_init_198) ?_
  exact snd_nil
theorem k_X8_init_0 (ca : Nat → ClassId) : k_X8_init ca 0 = i_aload 0 1 := rfl
theorem k_X8_init_1 (ca : Nat → ClassId) : k_X8_init ca 1 = i_oinit 4 := rfl
theorem k_X8_init_4 (ca : Nat → ClassId) : k_X8_init ca 4 = i_aload 0 5 := rfl
theorem k_X8_init_5 (ca : Nat → ClassId) : k_X8_init ca 5 = i_push (.int 127) 7 := rfl
theorem k_X8_init_7 (ca : Nat → ClassId) : k_X8_init ca 7 = i_newi 10 22274 (ca 0) 127 9 := rfl
theorem k_X8_init_9 (ca : Nat → ClassId) : k_X8_init ca 9 = i_putr 8 0 12 := rfl
theorem k_X8_init_12 (ca : Nat → ClassId) : k_X8_init ca 12 = i_aload 0 13 := rfl
theorem k_X8_init_13 (ca : Nat → ClassId) : k_X8_init ca 13 = i_push (.int 127) 15 := rfl
theorem k_X8_init_15 (ca : Nat → ClassId) : k_X8_init ca 15 = i_newi 10 22274 (ca 0) 127 17 := rfl
theorem k_X8_init_17 (ca : Nat → ClassId) : k_X8_init ca 17 = i_putr 8 1 20 := rfl
theorem k_X8_init_20 (ca : Nat → ClassId) : k_X8_init ca 20 = i_aload 0 21 := rfl
theorem k_X8_init_21 (ca : Nat → ClassId) : k_X8_init ca 21 = i_push (.int 508) 24 := rfl
theorem k_X8_init_24 (ca : Nat → ClassId) : k_X8_init ca 24 = i_newi 10 22274 (ca 0) 508 26 := rfl
theorem k_X8_init_26 (ca : Nat → ClassId) : k_X8_init ca 26 = i_putr 8 2 29 := rfl
theorem k_X8_init_29 (ca : Nat → ClassId) : k_X8_init ca 29 = i_aload 0 30 := rfl
theorem k_X8_init_30 (ca : Nat → ClassId) : k_X8_init ca 30 = i_push (.int 60) 32 := rfl
theorem k_X8_init_32 (ca : Nat → ClassId) : k_X8_init ca 32 = i_newi 10 22274 (ca 0) 60 34 := rfl
theorem k_X8_init_34 (ca : Nat → ClassId) : k_X8_init ca 34 = i_putr 8 4 37 := rfl
theorem k_X8_init_37 (ca : Nat → ClassId) : k_X8_init ca 37 = i_aload 0 38 := rfl
theorem k_X8_init_38 (ca : Nat → ClassId) : k_X8_init ca 38 = i_push (.int 3) 39 := rfl
theorem k_X8_init_39 (ca : Nat → ClassId) : k_X8_init ca 39 = i_newi 10 22274 (ca 0) 3 41 := rfl
theorem k_X8_init_41 (ca : Nat → ClassId) : k_X8_init ca 41 = i_putr 8 6 44 := rfl
theorem k_X8_init_44 (ca : Nat → ClassId) : k_X8_init ca 44 = i_aload 0 45 := rfl
theorem k_X8_init_45 (ca : Nat → ClassId) : k_X8_init ca 45 = i_push (.int 1501) 48 := rfl
theorem k_X8_init_48 (ca : Nat → ClassId) : k_X8_init ca 48 = i_newl 10 22274 (ca 1) 1501 50 := rfl
theorem k_X8_init_50 (ca : Nat → ClassId) : k_X8_init ca 50 = i_putr 8 7 53 := rfl
theorem k_X8_init_53 (ca : Nat → ClassId) : k_X8_init ca 53 = i_aload 0 54 := rfl
theorem k_X8_init_54 (ca : Nat → ClassId) : k_X8_init ca 54 = i_push (.int 1501) 57 := rfl
theorem k_X8_init_57 (ca : Nat → ClassId) : k_X8_init ca 57 = i_newi 10 22274 (ca 0) 1501 59 := rfl
theorem k_X8_init_59 (ca : Nat → ClassId) : k_X8_init ca 59 = i_putr 8 8 62 := rfl
theorem k_X8_init_62 (ca : Nat → ClassId) : k_X8_init ca 62 = i_aload 0 63 := rfl
theorem k_X8_init_63 (ca : Nat → ClassId) : k_X8_init ca 63 = i_push (.int 61) 65 := rfl
theorem k_X8_init_65 (ca : Nat → ClassId) : k_X8_init ca 65 = i_newi 10 22274 (ca 2) 61 67 := rfl
theorem k_X8_init_67 (ca : Nat → ClassId) : k_X8_init ca 67 = i_putr 8 9 70 := rfl
theorem k_X8_init_70 (ca : Nat → ClassId) : k_X8_init ca 70 = i_aload 0 71 := rfl
theorem k_X8_init_71 (ca : Nat → ClassId) : k_X8_init ca 71 = i_push (.int 18377) 74 := rfl
theorem k_X8_init_74 (ca : Nat → ClassId) : k_X8_init ca 74 = i_newi 10 22274 (ca 2) 18377 76 := rfl
theorem k_X8_init_76 (ca : Nat → ClassId) : k_X8_init ca 76 = i_putr 8 10 79 := rfl
theorem k_X8_init_79 (ca : Nat → ClassId) : k_X8_init ca 79 = i_aload 0 80 := rfl
theorem k_X8_init_80 (ca : Nat → ClassId) : k_X8_init ca 80 = i_push (.int 9) 82 := rfl
theorem k_X8_init_82 (ca : Nat → ClassId) : k_X8_init ca 82 = i_newi 10 22274 (ca 0) 9 84 := rfl
theorem k_X8_init_84 (ca : Nat → ClassId) : k_X8_init ca 84 = i_putr 8 11 87 := rfl
theorem k_X8_init_87 (ca : Nat → ClassId) : k_X8_init ca 87 = i_push (.int 0) 88 := rfl
theorem k_X8_init_88 (ca : Nat → ClassId) : k_X8_init ca 88 = i_istore 1 89 := rfl
theorem k_X8_init_89 (ca : Nat → ClassId) : k_X8_init ca 89 = i_iload 1 90 := rfl
theorem k_X8_init_90 (ca : Nat → ClassId) : k_X8_init ca 90 = i_push (.int 6) 92 := rfl
theorem k_X8_init_92 (ca : Nat → ClassId) : k_X8_init ca 92 = i_icmp (fun x y => y ≤ x) 112 95 := rfl
theorem k_X8_init_95 (ca : Nat → ClassId) : k_X8_init ca 95 = i_aload 0 96 := rfl
theorem k_X8_init_96 (ca : Nat → ClassId) : k_X8_init ca 96 = i_getf 8 0 99 := rfl
theorem k_X8_init_99 (ca : Nat → ClassId) : k_X8_init ca 99 = i_push (.int 0) 100 := rfl
theorem k_X8_init_100 (ca : Nat → ClassId) : k_X8_init ca 100 = i_iload 1 101 := rfl
theorem k_X8_init_101 (ca : Nat → ClassId) : k_X8_init ca 101 = i_bin (fun x y => x + y) 102 := rfl
theorem k_X8_init_102 (ca : Nat → ClassId) : k_X8_init ca 102 = i_push (.int 5) 103 := rfl
theorem k_X8_init_103 (ca : Nat → ClassId) : k_X8_init ca 103 = i_iload 1 104 := rfl
theorem k_X8_init_104 (ca : Nat → ClassId) : k_X8_init ca 104 = i_bin (fun x y => x * y) 105 := rfl
theorem k_X8_init_105 (ca : Nat → ClassId) : k_X8_init ca 105 = i_ast (fun x => x) (ca 0) 106 := rfl
theorem k_X8_init_106 (ca : Nat → ClassId) : k_X8_init ca 106 = i_iinc 1 1 109 := rfl
theorem k_X8_init_109 (ca : Nat → ClassId) : k_X8_init ca 109 = i_goto 89 := rfl
theorem k_X8_init_112 (ca : Nat → ClassId) : k_X8_init ca 112 = i_aload 0 113 := rfl
theorem k_X8_init_113 (ca : Nat → ClassId) : k_X8_init ca 113 = i_getf 8 0 116 := rfl
theorem k_X8_init_116 (ca : Nat → ClassId) : k_X8_init ca 116 = i_push (.int 7) 118 := rfl
theorem k_X8_init_118 (ca : Nat → ClassId) : k_X8_init ca 118 = i_push (.int 50) 120 := rfl
theorem k_X8_init_120 (ca : Nat → ClassId) : k_X8_init ca 120 = i_ast (fun x => x) (ca 0) 121 := rfl
theorem k_X8_init_121 (ca : Nat → ClassId) : k_X8_init ca 121 = i_aload 0 122 := rfl
theorem k_X8_init_122 (ca : Nat → ClassId) : k_X8_init ca 122 = i_getf 8 0 125 := rfl
theorem k_X8_init_125 (ca : Nat → ClassId) : k_X8_init ca 125 = i_push (.int 8) 127 := rfl
theorem k_X8_init_127 (ca : Nat → ClassId) : k_X8_init ca 127 = i_push (.int 100) 129 := rfl
theorem k_X8_init_129 (ca : Nat → ClassId) : k_X8_init ca 129 = i_ast (fun x => x) (ca 0) 130 := rfl
theorem k_X8_init_130 (ca : Nat → ClassId) : k_X8_init ca 130 = i_push (.int 0) 131 := rfl
theorem k_X8_init_131 (ca : Nat → ClassId) : k_X8_init ca 131 = i_istore 1 132 := rfl
theorem k_X8_init_132 (ca : Nat → ClassId) : k_X8_init ca 132 = i_iload 1 133 := rfl
theorem k_X8_init_133 (ca : Nat → ClassId) : k_X8_init ca 133 = i_push (.int 3) 134 := rfl
theorem k_X8_init_134 (ca : Nat → ClassId) : k_X8_init ca 134 = i_icmp (fun x y => y ≤ x) 198 137 := rfl
theorem k_X8_init_137 (ca : Nat → ClassId) : k_X8_init ca 137 = i_aload 0 138 := rfl
theorem k_X8_init_138 (ca : Nat → ClassId) : k_X8_init ca 138 = i_getf 8 0 141 := rfl
theorem k_X8_init_141 (ca : Nat → ClassId) : k_X8_init ca 141 = i_iload 1 142 := rfl
theorem k_X8_init_142 (ca : Nat → ClassId) : k_X8_init ca 142 = i_callS 1 0 0 10 22274 (sp_X8_stripAt ca) 145 := rfl
theorem k_X8_init_145 (ca : Nat → ClassId) : k_X8_init ca 145 = i_push (.int 1) 146 := rfl
theorem k_X8_init_146 (ca : Nat → ClassId) : k_X8_init ca 146 = i_bin (fun x y => x + y) 147 := rfl
theorem k_X8_init_147 (ca : Nat → ClassId) : k_X8_init ca 147 = i_push (.int 1000) 150 := rfl
theorem k_X8_init_150 (ca : Nat → ClassId) : k_X8_init ca 150 = i_ast (fun x => x) (ca 0) 151 := rfl
theorem k_X8_init_151 (ca : Nat → ClassId) : k_X8_init ca 151 = i_aload 0 152 := rfl
theorem k_X8_init_152 (ca : Nat → ClassId) : k_X8_init ca 152 = i_getf 8 0 155 := rfl
theorem k_X8_init_155 (ca : Nat → ClassId) : k_X8_init ca 155 = i_iload 1 156 := rfl
theorem k_X8_init_156 (ca : Nat → ClassId) : k_X8_init ca 156 = i_callS 1 0 0 10 22274 (sp_X8_stripAt ca) 159 := rfl
theorem k_X8_init_159 (ca : Nat → ClassId) : k_X8_init ca 159 = i_push (.int 2) 160 := rfl
theorem k_X8_init_160 (ca : Nat → ClassId) : k_X8_init ca 160 = i_bin (fun x y => x + y) 161 := rfl
theorem k_X8_init_161 (ca : Nat → ClassId) : k_X8_init ca 161 = i_push (.int 3000) 164 := rfl
theorem k_X8_init_164 (ca : Nat → ClassId) : k_X8_init ca 164 = i_ast (fun x => x) (ca 0) 165 := rfl
theorem k_X8_init_165 (ca : Nat → ClassId) : k_X8_init ca 165 = i_aload 0 166 := rfl
theorem k_X8_init_166 (ca : Nat → ClassId) : k_X8_init ca 166 = i_getf 8 0 169 := rfl
theorem k_X8_init_169 (ca : Nat → ClassId) : k_X8_init ca 169 = i_iload 1 170 := rfl
theorem k_X8_init_170 (ca : Nat → ClassId) : k_X8_init ca 170 = i_callS 1 0 0 10 22274 (sp_X8_roomAt ca) 173 := rfl
theorem k_X8_init_173 (ca : Nat → ClassId) : k_X8_init ca 173 = i_push (.int 0) 174 := rfl
theorem k_X8_init_174 (ca : Nat → ClassId) : k_X8_init ca 174 = i_bin (fun x y => x + y) 175 := rfl
theorem k_X8_init_175 (ca : Nat → ClassId) : k_X8_init ca 175 = i_push (.int 200) 178 := rfl
theorem k_X8_init_178 (ca : Nat → ClassId) : k_X8_init ca 178 = i_ast (fun x => x) (ca 0) 179 := rfl
theorem k_X8_init_179 (ca : Nat → ClassId) : k_X8_init ca 179 = i_aload 0 180 := rfl
theorem k_X8_init_180 (ca : Nat → ClassId) : k_X8_init ca 180 = i_getf 8 0 183 := rfl
theorem k_X8_init_183 (ca : Nat → ClassId) : k_X8_init ca 183 = i_iload 1 184 := rfl
theorem k_X8_init_184 (ca : Nat → ClassId) : k_X8_init ca 184 = i_callS 1 0 0 10 22274 (sp_X8_roomAt ca) 187 := rfl
theorem k_X8_init_187 (ca : Nat → ClassId) : k_X8_init ca 187 = i_push (.int 2) 188 := rfl
theorem k_X8_init_188 (ca : Nat → ClassId) : k_X8_init ca 188 = i_bin (fun x y => x + y) 189 := rfl
theorem k_X8_init_189 (ca : Nat → ClassId) : k_X8_init ca 189 = i_push (.int 20) 191 := rfl
theorem k_X8_init_191 (ca : Nat → ClassId) : k_X8_init ca 191 = i_ast (fun x => x) (ca 0) 192 := rfl
theorem k_X8_init_192 (ca : Nat → ClassId) : k_X8_init ca 192 = i_iinc 1 1 195 := rfl
theorem k_X8_init_195 (ca : Nat → ClassId) : k_X8_init ca 195 = i_goto 132 := rfl
theorem k_X8_init_198 (ca : Nat → ClassId) : k_X8_init ca 198 = i_vret := rfl
set_option maxHeartbeats 4000000 in
set_option maxRecDepth 20000 in
theorem ok_X8_init (l : Launch) (D : va_G) (ca : Nat → ClassId) : OkAll l D ca yX8_init cX8_init 2 none 1 10 22274 (sp_X8_init ca) := by
  intro av h post hs
  obtain ⟨a, rfl, ha, hs⟩ := hs
  refine okM_of t_X8_init (by decide +kernel) (c1_ref c1_nil) (Nat.le_of_ble_eq_true rfl) ?_
  intro K go
  have B0 := Bk.one ha
  refine goN go (stp [9]) 160 _ _ _ _ _ _ (fun F hF hF0 => ?_)
  simp only [hF, hF0, ite_not, i_push, i_iload, i_lload, i_aload, i_istore, i_astore, i_lstore, i_iinc, i_bin, i_dv, i_un, i_lbin, i_lsh, i_i2l, i_l2i, i_lcmp, i_dup, i_dup2, i_pop, i_if, i_icmp, i_goto, swG, i_sw, i_getf, i_puti, i_putz, i_putr, i_ald, i_lald, i_aald, i_ast, i_last, i_aast, i_alen, i_new, i_newi, i_newl, i_newq, i_oinit, i_ret, i_zret, i_lret, i_vret, catS, tk, rpush, isO, i_m1, i_m2, i_acopy, i_callV, i_callS, KRet, lget, lput, lputL, lcl0, isL, lv0, List.map_cons, List.map_nil, List.length_cons, List.length_nil, List.cons_append, List.nil_append, Nat.reduceAdd, Nat.reduceSub, Nat.reduceLeDiff, List.replicate_succ, List.replicate_zero, List.getElem?_cons_succ, List.getElem?_cons_zero, List.set_cons_succ, List.set_cons_zero, true_and, and_true, if_true, if_false, ↓reduceIte, Nat.le_refl, Value.category, va_up_app, eq_self, stp, Nat.reduceBEq, Bool.or_false, Bool.false_or, Bool.true_or, Bool.or_true, or_true, true_or, bx_uu, implies_true, true_implies, not_true, not_false_eq_true, false_implies, and_self, Nat.reduceLT, Int32.reduceAdd, Int32.reduceSub, Int32.reduceMul, Int32.reduceLE, Int32.reduceLT, Int32.reduceToNatClampNeg, va_rf_some, Bool.false_eq_true, k_X8_init_0 ca, k_X8_init_1 ca, k_X8_init_4 ca, k_X8_init_5 ca, k_X8_init_7 ca, k_X8_init_9 ca, k_X8_init_12 ca, k_X8_init_13 ca, k_X8_init_15 ca, k_X8_init_17 ca, k_X8_init_20 ca, k_X8_init_21 ca, k_X8_init_24 ca, k_X8_init_26 ca, k_X8_init_29 ca, k_X8_init_30 ca, k_X8_init_32 ca, k_X8_init_34 ca, k_X8_init_37 ca, k_X8_init_38 ca, k_X8_init_39 ca, k_X8_init_41 ca, k_X8_init_44 ca, k_X8_init_45 ca, k_X8_init_48 ca, k_X8_init_50 ca, k_X8_init_53 ca, k_X8_init_54 ca, k_X8_init_57 ca, k_X8_init_59 ca, k_X8_init_62 ca, k_X8_init_63 ca, k_X8_init_65 ca, k_X8_init_67 ca, k_X8_init_70 ca, k_X8_init_71 ca, k_X8_init_74 ca, k_X8_init_76 ca, k_X8_init_79 ca, k_X8_init_80 ca, k_X8_init_82 ca, k_X8_init_84 ca, k_X8_init_87 ca, k_X8_init_88 ca, k_X8_init_89 ca, k_X8_init_90 ca, k_X8_init_92 ca, k_X8_init_95 ca, k_X8_init_96 ca, k_X8_init_99 ca, k_X8_init_100 ca, k_X8_init_101 ca, k_X8_init_102 ca, k_X8_init_103 ca, k_X8_init_104 ca, k_X8_init_105 ca, k_X8_init_106 ca, k_X8_init_109 ca, k_X8_init_112 ca, k_X8_init_113 ca, k_X8_init_116 ca, k_X8_init_118 ca, k_X8_init_120 ca, k_X8_init_121 ca, k_X8_init_122 ca, k_X8_init_125 ca, k_X8_init_127 ca, k_X8_init_129 ca, k_X8_init_130 ca, k_X8_init_131 ca, k_X8_init_132 ca, k_X8_init_133 ca, k_X8_init_134 ca, k_X8_init_137 ca, k_X8_init_138 ca, k_X8_init_141 ca, k_X8_init_142 ca, k_X8_init_145 ca, k_X8_init_146 ca, k_X8_init_147 ca, k_X8_init_150 ca, k_X8_init_151 ca, k_X8_init_152 ca, k_X8_init_155 ca, k_X8_init_156 ca, k_X8_init_159 ca, k_X8_init_160 ca, k_X8_init_161 ca, k_X8_init_164 ca, k_X8_init_165 ca, k_X8_init_166 ca, k_X8_init_169 ca, k_X8_init_170 ca, k_X8_init_173 ca, k_X8_init_174 ca, k_X8_init_175 ca, k_X8_init_178 ca, k_X8_init_179 ca, k_X8_init_180 ca, k_X8_init_183 ca, k_X8_init_184 ca, k_X8_init_187 ca, k_X8_init_188 ca, k_X8_init_189 ca, k_X8_init_191 ca, k_X8_init_192 ca, k_X8_init_195 ca, k_X8_init_198 ca, ha]
  try clear hF hF0 F
  intro q1 hq1
  have B1 := B0.new (by decide) hq1 (.inl (ca 0, 127, .inl (fun _ => 0)))
  have d1 : ¬ a = q1 := ne_none ha hq1
  refine goN go (stp [17]) 160 _ _ _ _ _ _ (fun F hF hF0 => ?_)
  simp only [hF, hF0, ite_not, i_push, i_iload, i_lload, i_aload, i_istore, i_astore, i_lstore, i_iinc, i_bin, i_dv, i_un, i_lbin, i_lsh, i_i2l, i_l2i, i_lcmp, i_dup, i_dup2, i_pop, i_if, i_icmp, i_goto, swG, i_sw, i_getf, i_puti, i_putz, i_putr, i_ald, i_lald, i_aald, i_ast, i_last, i_aast, i_alen, i_new, i_newi, i_newl, i_newq, i_oinit, i_ret, i_zret, i_lret, i_vret, catS, tk, rpush, isO, i_m1, i_m2, i_acopy, i_callV, i_callS, KRet, lget, lput, lputL, lcl0, isL, lv0, List.map_cons, List.map_nil, List.length_cons, List.length_nil, List.cons_append, List.nil_append, Nat.reduceAdd, Nat.reduceSub, Nat.reduceLeDiff, List.replicate_succ, List.replicate_zero, List.getElem?_cons_succ, List.getElem?_cons_zero, List.set_cons_succ, List.set_cons_zero, true_and, and_true, if_true, if_false, ↓reduceIte, Nat.le_refl, Value.category, va_up_app, eq_self, stp, Nat.reduceBEq, Bool.or_false, Bool.false_or, Bool.true_or, Bool.or_true, or_true, true_or, bx_uu, implies_true, true_implies, not_true, not_false_eq_true, false_implies, and_self, Nat.reduceLT, Int32.reduceAdd, Int32.reduceSub, Int32.reduceMul, Int32.reduceLE, Int32.reduceLT, Int32.reduceToNatClampNeg, va_rf_some, Bool.false_eq_true, k_X8_init_0 ca, k_X8_init_1 ca, k_X8_init_4 ca, k_X8_init_5 ca, k_X8_init_7 ca, k_X8_init_9 ca, k_X8_init_12 ca, k_X8_init_13 ca, k_X8_init_15 ca, k_X8_init_17 ca, k_X8_init_20 ca, k_X8_init_21 ca, k_X8_init_24 ca, k_X8_init_26 ca, k_X8_init_29 ca, k_X8_init_30 ca, k_X8_init_32 ca, k_X8_init_34 ca, k_X8_init_37 ca, k_X8_init_38 ca, k_X8_init_39 ca, k_X8_init_41 ca, k_X8_init_44 ca, k_X8_init_45 ca, k_X8_init_48 ca, k_X8_init_50 ca, k_X8_init_53 ca, k_X8_init_54 ca, k_X8_init_57 ca, k_X8_init_59 ca, k_X8_init_62 ca, k_X8_init_63 ca, k_X8_init_65 ca, k_X8_init_67 ca, k_X8_init_70 ca, k_X8_init_71 ca, k_X8_init_74 ca, k_X8_init_76 ca, k_X8_init_79 ca, k_X8_init_80 ca, k_X8_init_82 ca, k_X8_init_84 ca, k_X8_init_87 ca, k_X8_init_88 ca, k_X8_init_89 ca, k_X8_init_90 ca, k_X8_init_92 ca, k_X8_init_95 ca, k_X8_init_96 ca, k_X8_init_99 ca, k_X8_init_100 ca, k_X8_init_101 ca, k_X8_init_102 ca, k_X8_init_103 ca, k_X8_init_104 ca, k_X8_init_105 ca, k_X8_init_106 ca, k_X8_init_109 ca, k_X8_init_112 ca, k_X8_init_113 ca, k_X8_init_116 ca, k_X8_init_118 ca, k_X8_init_120 ca, k_X8_init_121 ca, k_X8_init_122 ca, k_X8_init_125 ca, k_X8_init_127 ca, k_X8_init_129 ca, k_X8_init_130 ca, k_X8_init_131 ca, k_X8_init_132 ca, k_X8_init_133 ca, k_X8_init_134 ca, k_X8_init_137 ca, k_X8_init_138 ca, k_X8_init_141 ca, k_X8_init_142 ca, k_X8_init_145 ca, k_X8_init_146 ca, k_X8_init_147 ca, k_X8_init_150 ca, k_X8_init_151 ca, k_X8_init_152 ca, k_X8_init_155 ca, k_X8_init_156 ca, k_X8_init_159 ca, k_X8_init_160 ca, k_X8_init_161 ca, k_X8_init_164 ca, k_X8_init_165 ca, k_X8_init_166 ca, k_X8_init_169 ca, k_X8_init_170 ca, k_X8_init_173 ca, k_X8_init_174 ca, k_X8_init_175 ca, k_X8_init_178 ca, k_X8_init_179 ca, k_X8_init_180 ca, k_X8_init_183 ca, k_X8_init_184 ca, k_X8_init_187 ca, k_X8_init_188 ca, k_X8_init_189 ca, k_X8_init_191 ca, k_X8_init_192 ca, k_X8_init_195 ca, k_X8_init_198 ca, ha, d1]
  try clear hF hF0 F
  intro q2 hq2
  have hq2 : va_up (va_up h q1 (some (.inl (ca 0, 127, .inl (fun _ => 0))))) a (some (.inr (8, [.ref q1, .null, .null, .int 0, .null, .int 0, .null, .null, .null, .null, .null, .null, .int 0, .int 0, .int 0]))) q2 = none := hq2
  have U1 : Bk h (va_up (va_up h q1 (some (.inl (ca 0, 127, .inl (fun _ => 0))))) a (some (.inr (8, [.ref q1, .null, .null, .int 0, .null, .int 0, .null, .null, .null, .null, .null, .null, .int 0, .int 0, .int 0])))) (Qa (fun _ => a) 1 (fun _ => q1)) 2 := B1.up (i := 0) (by decide) (.inr (8, [.ref q1, .null, .null, .int 0, .null, .int 0, .null, .null, .null, .null, .null, .null, .int 0, .int 0, .int 0]))
  generalize eH1 : va_up (va_up h q1 (some (.inl (ca 0, 127, .inl (fun _ => 0))))) a (some (.inr (8, [.ref q1, .null, .null, .int 0, .null, .int 0, .null, .null, .null, .null, .null, .null, .int 0, .int 0, .int 0]))) = H1 at *
  have a1 : H1 a = some (.inr (8, [.ref q1, .null, .null, .int 0, .null, .int 0, .null, .null, .null, .null, .null, .null, .int 0, .int 0, .int 0])) := by rw [← eH1]; exact va_up_self _ _ _
  have b1_q1 : H1 q1 = some (.inl (ca 0, 127, .inl (fun _ => 0))) := by rw [← eH1]; exact (va_up_ne _ _ (fun z => d1 z.symm)).trans (va_up_self _ _ _)
  clear eH1 B1
  have B2 := U1.new (by decide) hq2 (.inl (ca 0, 127, .inl (fun _ => 0)))
  have d2 : ¬ a = q2 := ne_none a1 hq2
  have d1_2 : ¬ q1 = q2 := ne_none b1_q1 hq2
  refine goN go (stp [26]) 160 _ _ _ _ _ _ (fun F hF hF0 => ?_)
  simp only [hF, hF0, ite_not, i_push, i_iload, i_lload, i_aload, i_istore, i_astore, i_lstore, i_iinc, i_bin, i_dv, i_un, i_lbin, i_lsh, i_i2l, i_l2i, i_lcmp, i_dup, i_dup2, i_pop, i_if, i_icmp, i_goto, swG, i_sw, i_getf, i_puti, i_putz, i_putr, i_ald, i_lald, i_aald, i_ast, i_last, i_aast, i_alen, i_new, i_newi, i_newl, i_newq, i_oinit, i_ret, i_zret, i_lret, i_vret, catS, tk, rpush, isO, i_m1, i_m2, i_acopy, i_callV, i_callS, KRet, lget, lput, lputL, lcl0, isL, lv0, List.map_cons, List.map_nil, List.length_cons, List.length_nil, List.cons_append, List.nil_append, Nat.reduceAdd, Nat.reduceSub, Nat.reduceLeDiff, List.replicate_succ, List.replicate_zero, List.getElem?_cons_succ, List.getElem?_cons_zero, List.set_cons_succ, List.set_cons_zero, true_and, and_true, if_true, if_false, ↓reduceIte, Nat.le_refl, Value.category, va_up_app, eq_self, stp, Nat.reduceBEq, Bool.or_false, Bool.false_or, Bool.true_or, Bool.or_true, or_true, true_or, bx_uu, implies_true, true_implies, not_true, not_false_eq_true, false_implies, and_self, Nat.reduceLT, Int32.reduceAdd, Int32.reduceSub, Int32.reduceMul, Int32.reduceLE, Int32.reduceLT, Int32.reduceToNatClampNeg, va_rf_some, Bool.false_eq_true, k_X8_init_0 ca, k_X8_init_1 ca, k_X8_init_4 ca, k_X8_init_5 ca, k_X8_init_7 ca, k_X8_init_9 ca, k_X8_init_12 ca, k_X8_init_13 ca, k_X8_init_15 ca, k_X8_init_17 ca, k_X8_init_20 ca, k_X8_init_21 ca, k_X8_init_24 ca, k_X8_init_26 ca, k_X8_init_29 ca, k_X8_init_30 ca, k_X8_init_32 ca, k_X8_init_34 ca, k_X8_init_37 ca, k_X8_init_38 ca, k_X8_init_39 ca, k_X8_init_41 ca, k_X8_init_44 ca, k_X8_init_45 ca, k_X8_init_48 ca, k_X8_init_50 ca, k_X8_init_53 ca, k_X8_init_54 ca, k_X8_init_57 ca, k_X8_init_59 ca, k_X8_init_62 ca, k_X8_init_63 ca, k_X8_init_65 ca, k_X8_init_67 ca, k_X8_init_70 ca, k_X8_init_71 ca, k_X8_init_74 ca, k_X8_init_76 ca, k_X8_init_79 ca, k_X8_init_80 ca, k_X8_init_82 ca, k_X8_init_84 ca, k_X8_init_87 ca, k_X8_init_88 ca, k_X8_init_89 ca, k_X8_init_90 ca, k_X8_init_92 ca, k_X8_init_95 ca, k_X8_init_96 ca, k_X8_init_99 ca, k_X8_init_100 ca, k_X8_init_101 ca, k_X8_init_102 ca, k_X8_init_103 ca, k_X8_init_104 ca, k_X8_init_105 ca, k_X8_init_106 ca, k_X8_init_109 ca, k_X8_init_112 ca, k_X8_init_113 ca, k_X8_init_116 ca, k_X8_init_118 ca, k_X8_init_120 ca, k_X8_init_121 ca, k_X8_init_122 ca, k_X8_init_125 ca, k_X8_init_127 ca, k_X8_init_129 ca, k_X8_init_130 ca, k_X8_init_131 ca, k_X8_init_132 ca, k_X8_init_133 ca, k_X8_init_134 ca, k_X8_init_137 ca, k_X8_init_138 ca, k_X8_init_141 ca, k_X8_init_142 ca, k_X8_init_145 ca, k_X8_init_146 ca, k_X8_init_147 ca, k_X8_init_150 ca, k_X8_init_151 ca, k_X8_init_152 ca, k_X8_init_155 ca, k_X8_init_156 ca, k_X8_init_159 ca, k_X8_init_160 ca, k_X8_init_161 ca, k_X8_init_164 ca, k_X8_init_165 ca, k_X8_init_166 ca, k_X8_init_169 ca, k_X8_init_170 ca, k_X8_init_173 ca, k_X8_init_174 ca, k_X8_init_175 ca, k_X8_init_178 ca, k_X8_init_179 ca, k_X8_init_180 ca, k_X8_init_183 ca, k_X8_init_184 ca, k_X8_init_187 ca, k_X8_init_188 ca, k_X8_init_189 ca, k_X8_init_191 ca, k_X8_init_192 ca, k_X8_init_195 ca, k_X8_init_198 ca, a1, d2]
  try clear hF hF0 F
  intro q3 hq3
  have hq3 : va_up (va_up H1 q2 (some (.inl (ca 0, 127, .inl (fun _ => 0))))) a (some (.inr (8, [.ref q1, .ref q2, .null, .int 0, .null, .int 0, .null, .null, .null, .null, .null, .null, .int 0, .int 0, .int 0]))) q3 = none := hq3
  have U2 : Bk h (va_up (va_up H1 q2 (some (.inl (ca 0, 127, .inl (fun _ => 0))))) a (some (.inr (8, [.ref q1, .ref q2, .null, .int 0, .null, .int 0, .null, .null, .null, .null, .null, .null, .int 0, .int 0, .int 0])))) (Qa (Qa (fun _ => a) 1 (fun _ => q1)) 2 (fun _ => q2)) 3 := B2.up (i := 0) (by decide) (.inr (8, [.ref q1, .ref q2, .null, .int 0, .null, .int 0, .null, .null, .null, .null, .null, .null, .int 0, .int 0, .int 0]))
  generalize eH2 : va_up (va_up H1 q2 (some (.inl (ca 0, 127, .inl (fun _ => 0))))) a (some (.inr (8, [.ref q1, .ref q2, .null, .int 0, .null, .int 0, .null, .null, .null, .null, .null, .null, .int 0, .int 0, .int 0]))) = H2 at *
  have a2 : H2 a = some (.inr (8, [.ref q1, .ref q2, .null, .int 0, .null, .int 0, .null, .null, .null, .null, .null, .null, .int 0, .int 0, .int 0])) := by rw [← eH2]; exact va_up_self _ _ _
  have b2_q1 : H2 q1 = some (.inl (ca 0, 127, .inl (fun _ => 0))) := by rw [← eH2]; exact (va_up_ne _ _ (fun z => d1 z.symm)).trans ((va_up_ne _ _ d1_2).trans b1_q1)
  have b2_q2 : H2 q2 = some (.inl (ca 0, 127, .inl (fun _ => 0))) := by rw [← eH2]; exact (va_up_ne _ _ (fun z => d2 z.symm)).trans (va_up_self _ _ _)
  clear eH2 B2
  have B3 := U2.new (by decide) hq3 (.inl (ca 0, 508, .inl (fun _ => 0)))
  have d3 : ¬ a = q3 := ne_none a2 hq3
  have d1_3 : ¬ q1 = q3 := ne_none b2_q1 hq3
  have d2_3 : ¬ q2 = q3 := ne_none b2_q2 hq3
  refine goN go (stp [34]) 160 _ _ _ _ _ _ (fun F hF hF0 => ?_)
  simp only [hF, hF0, ite_not, i_push, i_iload, i_lload, i_aload, i_istore, i_astore, i_lstore, i_iinc, i_bin, i_dv, i_un, i_lbin, i_lsh, i_i2l, i_l2i, i_lcmp, i_dup, i_dup2, i_pop, i_if, i_icmp, i_goto, swG, i_sw, i_getf, i_puti, i_putz, i_putr, i_ald, i_lald, i_aald, i_ast, i_last, i_aast, i_alen, i_new, i_newi, i_newl, i_newq, i_oinit, i_ret, i_zret, i_lret, i_vret, catS, tk, rpush, isO, i_m1, i_m2, i_acopy, i_callV, i_callS, KRet, lget, lput, lputL, lcl0, isL, lv0, List.map_cons, List.map_nil, List.length_cons, List.length_nil, List.cons_append, List.nil_append, Nat.reduceAdd, Nat.reduceSub, Nat.reduceLeDiff, List.replicate_succ, List.replicate_zero, List.getElem?_cons_succ, List.getElem?_cons_zero, List.set_cons_succ, List.set_cons_zero, true_and, and_true, if_true, if_false, ↓reduceIte, Nat.le_refl, Value.category, va_up_app, eq_self, stp, Nat.reduceBEq, Bool.or_false, Bool.false_or, Bool.true_or, Bool.or_true, or_true, true_or, bx_uu, implies_true, true_implies, not_true, not_false_eq_true, false_implies, and_self, Nat.reduceLT, Int32.reduceAdd, Int32.reduceSub, Int32.reduceMul, Int32.reduceLE, Int32.reduceLT, Int32.reduceToNatClampNeg, va_rf_some, Bool.false_eq_true, k_X8_init_0 ca, k_X8_init_1 ca, k_X8_init_4 ca, k_X8_init_5 ca, k_X8_init_7 ca, k_X8_init_9 ca, k_X8_init_12 ca, k_X8_init_13 ca, k_X8_init_15 ca, k_X8_init_17 ca, k_X8_init_20 ca, k_X8_init_21 ca, k_X8_init_24 ca, k_X8_init_26 ca, k_X8_init_29 ca, k_X8_init_30 ca, k_X8_init_32 ca, k_X8_init_34 ca, k_X8_init_37 ca, k_X8_init_38 ca, k_X8_init_39 ca, k_X8_init_41 ca, k_X8_init_44 ca, k_X8_init_45 ca, k_X8_init_48 ca, k_X8_init_50 ca, k_X8_init_53 ca, k_X8_init_54 ca, k_X8_init_57 ca, k_X8_init_59 ca, k_X8_init_62 ca, k_X8_init_63 ca, k_X8_init_65 ca, k_X8_init_67 ca, k_X8_init_70 ca, k_X8_init_71 ca, k_X8_init_74 ca, k_X8_init_76 ca, k_X8_init_79 ca, k_X8_init_80 ca, k_X8_init_82 ca, k_X8_init_84 ca, k_X8_init_87 ca, k_X8_init_88 ca, k_X8_init_89 ca, k_X8_init_90 ca, k_X8_init_92 ca, k_X8_init_95 ca, k_X8_init_96 ca, k_X8_init_99 ca, k_X8_init_100 ca, k_X8_init_101 ca, k_X8_init_102 ca, k_X8_init_103 ca, k_X8_init_104 ca, k_X8_init_105 ca, k_X8_init_106 ca, k_X8_init_109 ca, k_X8_init_112 ca, k_X8_init_113 ca, k_X8_init_116 ca, k_X8_init_118 ca, k_X8_init_120 ca, k_X8_init_121 ca, k_X8_init_122 ca, k_X8_init_125 ca, k_X8_init_127 ca, k_X8_init_129 ca, k_X8_init_130 ca, k_X8_init_131 ca, k_X8_init_132 ca, k_X8_init_133 ca, k_X8_init_134 ca, k_X8_init_137 ca, k_X8_init_138 ca, k_X8_init_141 ca, k_X8_init_142 ca, k_X8_init_145 ca, k_X8_init_146 ca, k_X8_init_147 ca, k_X8_init_150 ca, k_X8_init_151 ca, k_X8_init_152 ca, k_X8_init_155 ca, k_X8_init_156 ca, k_X8_init_159 ca, k_X8_init_160 ca, k_X8_init_161 ca, k_X8_init_164 ca, k_X8_init_165 ca, k_X8_init_166 ca, k_X8_init_169 ca, k_X8_init_170 ca, k_X8_init_173 ca, k_X8_init_174 ca, k_X8_init_175 ca, k_X8_init_178 ca, k_X8_init_179 ca, k_X8_init_180 ca, k_X8_init_183 ca, k_X8_init_184 ca, k_X8_init_187 ca, k_X8_init_188 ca, k_X8_init_189 ca, k_X8_init_191 ca, k_X8_init_192 ca, k_X8_init_195 ca, k_X8_init_198 ca, a2, d3]
  try clear hF hF0 F
  intro q4 hq4
  have hq4 : va_up (va_up H2 q3 (some (.inl (ca 0, 508, .inl (fun _ => 0))))) a (some (.inr (8, [.ref q1, .ref q2, .ref q3, .int 0, .null, .int 0, .null, .null, .null, .null, .null, .null, .int 0, .int 0, .int 0]))) q4 = none := hq4
  have U3 : Bk h (va_up (va_up H2 q3 (some (.inl (ca 0, 508, .inl (fun _ => 0))))) a (some (.inr (8, [.ref q1, .ref q2, .ref q3, .int 0, .null, .int 0, .null, .null, .null, .null, .null, .null, .int 0, .int 0, .int 0])))) (Qa (Qa (Qa (fun _ => a) 1 (fun _ => q1)) 2 (fun _ => q2)) 3 (fun _ => q3)) 4 := B3.up (i := 0) (by decide) (.inr (8, [.ref q1, .ref q2, .ref q3, .int 0, .null, .int 0, .null, .null, .null, .null, .null, .null, .int 0, .int 0, .int 0]))
  generalize eH3 : va_up (va_up H2 q3 (some (.inl (ca 0, 508, .inl (fun _ => 0))))) a (some (.inr (8, [.ref q1, .ref q2, .ref q3, .int 0, .null, .int 0, .null, .null, .null, .null, .null, .null, .int 0, .int 0, .int 0]))) = H3 at *
  have a3 : H3 a = some (.inr (8, [.ref q1, .ref q2, .ref q3, .int 0, .null, .int 0, .null, .null, .null, .null, .null, .null, .int 0, .int 0, .int 0])) := by rw [← eH3]; exact va_up_self _ _ _
  have b3_q1 : H3 q1 = some (.inl (ca 0, 127, .inl (fun _ => 0))) := by rw [← eH3]; exact (va_up_ne _ _ (fun z => d1 z.symm)).trans ((va_up_ne _ _ d1_3).trans b2_q1)
  have b3_q2 : H3 q2 = some (.inl (ca 0, 127, .inl (fun _ => 0))) := by rw [← eH3]; exact (va_up_ne _ _ (fun z => d2 z.symm)).trans ((va_up_ne _ _ d2_3).trans b2_q2)
  have b3_q3 : H3 q3 = some (.inl (ca 0, 508, .inl (fun _ => 0))) := by rw [← eH3]; exact (va_up_ne _ _ (fun z => d3 z.symm)).trans (va_up_self _ _ _)
  clear eH3 B3
  have B4 := U3.new (by decide) hq4 (.inl (ca 0, 60, .inl (fun _ => 0)))
  have d4 : ¬ a = q4 := ne_none a3 hq4
  have d1_4 : ¬ q1 = q4 := ne_none b3_q1 hq4
  have d2_4 : ¬ q2 = q4 := ne_none b3_q2 hq4
  have d3_4 : ¬ q3 = q4 := ne_none b3_q3 hq4
  refine goN go (stp [41]) 160 _ _ _ _ _ _ (fun F hF hF0 => ?_)
  simp only [hF, hF0, ite_not, i_push, i_iload, i_lload, i_aload, i_istore, i_astore, i_lstore, i_iinc, i_bin, i_dv, i_un, i_lbin, i_lsh, i_i2l, i_l2i, i_lcmp, i_dup, i_dup2, i_pop, i_if, i_icmp, i_goto, swG, i_sw, i_getf, i_puti, i_putz, i_putr, i_ald, i_lald, i_aald, i_ast, i_last, i_aast, i_alen, i_new, i_newi, i_newl, i_newq, i_oinit, i_ret, i_zret, i_lret, i_vret, catS, tk, rpush, isO, i_m1, i_m2, i_acopy, i_callV, i_callS, KRet, lget, lput, lputL, lcl0, isL, lv0, List.map_cons, List.map_nil, List.length_cons, List.length_nil, List.cons_append, List.nil_append, Nat.reduceAdd, Nat.reduceSub, Nat.reduceLeDiff, List.replicate_succ, List.replicate_zero, List.getElem?_cons_succ, List.getElem?_cons_zero, List.set_cons_succ, List.set_cons_zero, true_and, and_true, if_true, if_false, ↓reduceIte, Nat.le_refl, Value.category, va_up_app, eq_self, stp, Nat.reduceBEq, Bool.or_false, Bool.false_or, Bool.true_or, Bool.or_true, or_true, true_or, bx_uu, implies_true, true_implies, not_true, not_false_eq_true, false_implies, and_self, Nat.reduceLT, Int32.reduceAdd, Int32.reduceSub, Int32.reduceMul, Int32.reduceLE, Int32.reduceLT, Int32.reduceToNatClampNeg, va_rf_some, Bool.false_eq_true, k_X8_init_0 ca, k_X8_init_1 ca, k_X8_init_4 ca, k_X8_init_5 ca, k_X8_init_7 ca, k_X8_init_9 ca, k_X8_init_12 ca, k_X8_init_13 ca, k_X8_init_15 ca, k_X8_init_17 ca, k_X8_init_20 ca, k_X8_init_21 ca, k_X8_init_24 ca, k_X8_init_26 ca, k_X8_init_29 ca, k_X8_init_30 ca, k_X8_init_32 ca, k_X8_init_34 ca, k_X8_init_37 ca, k_X8_init_38 ca, k_X8_init_39 ca, k_X8_init_41 ca, k_X8_init_44 ca, k_X8_init_45 ca, k_X8_init_48 ca, k_X8_init_50 ca, k_X8_init_53 ca, k_X8_init_54 ca, k_X8_init_57 ca, k_X8_init_59 ca, k_X8_init_62 ca, k_X8_init_63 ca, k_X8_init_65 ca, k_X8_init_67 ca, k_X8_init_70 ca, k_X8_init_71 ca, k_X8_init_74 ca, k_X8_init_76 ca, k_X8_init_79 ca, k_X8_init_80 ca, k_X8_init_82 ca, k_X8_init_84 ca, k_X8_init_87 ca, k_X8_init_88 ca, k_X8_init_89 ca, k_X8_init_90 ca, k_X8_init_92 ca, k_X8_init_95 ca, k_X8_init_96 ca, k_X8_init_99 ca, k_X8_init_100 ca, k_X8_init_101 ca, k_X8_init_102 ca, k_X8_init_103 ca, k_X8_init_104 ca, k_X8_init_105 ca, k_X8_init_106 ca, k_X8_init_109 ca, k_X8_init_112 ca, k_X8_init_113 ca, k_X8_init_116 ca, k_X8_init_118 ca, k_X8_init_120 ca, k_X8_init_121 ca, k_X8_init_122 ca, k_X8_init_125 ca, k_X8_init_127 ca, k_X8_init_129 ca, k_X8_init_130 ca, k_X8_init_131 ca, k_X8_init_132 ca, k_X8_init_133 ca, k_X8_init_134 ca, k_X8_init_137 ca, k_X8_init_138 ca, k_X8_init_141 ca, k_X8_init_142 ca, k_X8_init_145 ca, k_X8_init_146 ca, k_X8_init_147 ca, k_X8_init_150 ca, k_X8_init_151 ca, k_X8_init_152 ca, k_X8_init_155 ca, k_X8_init_156 ca, k_X8_init_159 ca, k_X8_init_160 ca, k_X8_init_161 ca, k_X8_init_164 ca, k_X8_init_165 ca, k_X8_init_166 ca, k_X8_init_169 ca, k_X8_init_170 ca, k_X8_init_173 ca, k_X8_init_174 ca, k_X8_init_175 ca, k_X8_init_178 ca, k_X8_init_179 ca, k_X8_init_180 ca, k_X8_init_183 ca, k_X8_init_184 ca, k_X8_init_187 ca, k_X8_init_188 ca, k_X8_init_189 ca, k_X8_init_191 ca, k_X8_init_192 ca, k_X8_init_195 ca, k_X8_init_198 ca, a3, d4]
  try clear hF hF0 F
  intro q5 hq5
  have hq5 : va_up (va_up H3 q4 (some (.inl (ca 0, 60, .inl (fun _ => 0))))) a (some (.inr (8, [.ref q1, .ref q2, .ref q3, .int 0, .ref q4, .int 0, .null, .null, .null, .null, .null, .null, .int 0, .int 0, .int 0]))) q5 = none := hq5
  have U4 : Bk h (va_up (va_up H3 q4 (some (.inl (ca 0, 60, .inl (fun _ => 0))))) a (some (.inr (8, [.ref q1, .ref q2, .ref q3, .int 0, .ref q4, .int 0, .null, .null, .null, .null, .null, .null, .int 0, .int 0, .int 0])))) (Qa (Qa (Qa (Qa (fun _ => a) 1 (fun _ => q1)) 2 (fun _ => q2)) 3 (fun _ => q3)) 4 (fun _ => q4)) 5 := B4.up (i := 0) (by decide) (.inr (8, [.ref q1, .ref q2, .ref q3, .int 0, .ref q4, .int 0, .null, .null, .null, .null, .null, .null, .int 0, .int 0, .int 0]))
  generalize eH4 : va_up (va_up H3 q4 (some (.inl (ca 0, 60, .inl (fun _ => 0))))) a (some (.inr (8, [.ref q1, .ref q2, .ref q3, .int 0, .ref q4, .int 0, .null, .null, .null, .null, .null, .null, .int 0, .int 0, .int 0]))) = H4 at *
  have a4 : H4 a = some (.inr (8, [.ref q1, .ref q2, .ref q3, .int 0, .ref q4, .int 0, .null, .null, .null, .null, .null, .null, .int 0, .int 0, .int 0])) := by rw [← eH4]; exact va_up_self _ _ _
  have b4_q1 : H4 q1 = some (.inl (ca 0, 127, .inl (fun _ => 0))) := by rw [← eH4]; exact (va_up_ne _ _ (fun z => d1 z.symm)).trans ((va_up_ne _ _ d1_4).trans b3_q1)
  have b4_q2 : H4 q2 = some (.inl (ca 0, 127, .inl (fun _ => 0))) := by rw [← eH4]; exact (va_up_ne _ _ (fun z => d2 z.symm)).trans ((va_up_ne _ _ d2_4).trans b3_q2)
  have b4_q3 : H4 q3 = some (.inl (ca 0, 508, .inl (fun _ => 0))) := by rw [← eH4]; exact (va_up_ne _ _ (fun z => d3 z.symm)).trans ((va_up_ne _ _ d3_4).trans b3_q3)
  have b4_q4 : H4 q4 = some (.inl (ca 0, 60, .inl (fun _ => 0))) := by rw [← eH4]; exact (va_up_ne _ _ (fun z => d4 z.symm)).trans (va_up_self _ _ _)
  clear eH4 B4
  have B5 := U4.new (by decide) hq5 (.inl (ca 0, 3, .inl (fun _ => 0)))
  have d5 : ¬ a = q5 := ne_none a4 hq5
  have d1_5 : ¬ q1 = q5 := ne_none b4_q1 hq5
  have d2_5 : ¬ q2 = q5 := ne_none b4_q2 hq5
  have d3_5 : ¬ q3 = q5 := ne_none b4_q3 hq5
  have d4_5 : ¬ q4 = q5 := ne_none b4_q4 hq5
  refine goN go (stp [50]) 160 _ _ _ _ _ _ (fun F hF hF0 => ?_)
  simp only [hF, hF0, ite_not, i_push, i_iload, i_lload, i_aload, i_istore, i_astore, i_lstore, i_iinc, i_bin, i_dv, i_un, i_lbin, i_lsh, i_i2l, i_l2i, i_lcmp, i_dup, i_dup2, i_pop, i_if, i_icmp, i_goto, swG, i_sw, i_getf, i_puti, i_putz, i_putr, i_ald, i_lald, i_aald, i_ast, i_last, i_aast, i_alen, i_new, i_newi, i_newl, i_newq, i_oinit, i_ret, i_zret, i_lret, i_vret, catS, tk, rpush, isO, i_m1, i_m2, i_acopy, i_callV, i_callS, KRet, lget, lput, lputL, lcl0, isL, lv0, List.map_cons, List.map_nil, List.length_cons, List.length_nil, List.cons_append, List.nil_append, Nat.reduceAdd, Nat.reduceSub, Nat.reduceLeDiff, List.replicate_succ, List.replicate_zero, List.getElem?_cons_succ, List.getElem?_cons_zero, List.set_cons_succ, List.set_cons_zero, true_and, and_true, if_true, if_false, ↓reduceIte, Nat.le_refl, Value.category, va_up_app, eq_self, stp, Nat.reduceBEq, Bool.or_false, Bool.false_or, Bool.true_or, Bool.or_true, or_true, true_or, bx_uu, implies_true, true_implies, not_true, not_false_eq_true, false_implies, and_self, Nat.reduceLT, Int32.reduceAdd, Int32.reduceSub, Int32.reduceMul, Int32.reduceLE, Int32.reduceLT, Int32.reduceToNatClampNeg, va_rf_some, Bool.false_eq_true, k_X8_init_0 ca, k_X8_init_1 ca, k_X8_init_4 ca, k_X8_init_5 ca, k_X8_init_7 ca, k_X8_init_9 ca, k_X8_init_12 ca, k_X8_init_13 ca, k_X8_init_15 ca, k_X8_init_17 ca, k_X8_init_20 ca, k_X8_init_21 ca, k_X8_init_24 ca, k_X8_init_26 ca, k_X8_init_29 ca, k_X8_init_30 ca, k_X8_init_32 ca, k_X8_init_34 ca, k_X8_init_37 ca, k_X8_init_38 ca, k_X8_init_39 ca, k_X8_init_41 ca, k_X8_init_44 ca, k_X8_init_45 ca, k_X8_init_48 ca, k_X8_init_50 ca, k_X8_init_53 ca, k_X8_init_54 ca, k_X8_init_57 ca, k_X8_init_59 ca, k_X8_init_62 ca, k_X8_init_63 ca, k_X8_init_65 ca, k_X8_init_67 ca, k_X8_init_70 ca, k_X8_init_71 ca, k_X8_init_74 ca, k_X8_init_76 ca, k_X8_init_79 ca, k_X8_init_80 ca, k_X8_init_82 ca, k_X8_init_84 ca, k_X8_init_87 ca, k_X8_init_88 ca, k_X8_init_89 ca, k_X8_init_90 ca, k_X8_init_92 ca, k_X8_init_95 ca, k_X8_init_96 ca, k_X8_init_99 ca, k_X8_init_100 ca, k_X8_init_101 ca, k_X8_init_102 ca, k_X8_init_103 ca, k_X8_init_104 ca, k_X8_init_105 ca, k_X8_init_106 ca, k_X8_init_109 ca, k_X8_init_112 ca, k_X8_init_113 ca, k_X8_init_116 ca, k_X8_init_118 ca, k_X8_init_120 ca, k_X8_init_121 ca, k_X8_init_122 ca, k_X8_init_125 ca, k_X8_init_127 ca, k_X8_init_129 ca, k_X8_init_130 ca, k_X8_init_131 ca, k_X8_init_132 ca, k_X8_init_133 ca, k_X8_init_134 ca, k_X8_init_137 ca, k_X8_init_138 ca, k_X8_init_141 ca, k_X8_init_142 ca, k_X8_init_145 ca, k_X8_init_146 ca, k_X8_init_147 ca, k_X8_init_150 ca, k_X8_init_151 ca, k_X8_init_152 ca, k_X8_init_155 ca, k_X8_init_156 ca, k_X8_init_159 ca, k_X8_init_160 ca, k_X8_init_161 ca, k_X8_init_164 ca, k_X8_init_165 ca, k_X8_init_166 ca, k_X8_init_169 ca, k_X8_init_170 ca, k_X8_init_173 ca, k_X8_init_174 ca, k_X8_init_175 ca, k_X8_init_178 ca, k_X8_init_179 ca, k_X8_init_180 ca, k_X8_init_183 ca, k_X8_init_184 ca, k_X8_init_187 ca, k_X8_init_188 ca, k_X8_init_189 ca, k_X8_init_191 ca, k_X8_init_192 ca, k_X8_init_195 ca, k_X8_init_198 ca, a4, d5]
  try clear hF hF0 F
  intro q6 hq6
  have hq6 : va_up (va_up H4 q5 (some (.inl (ca 0, 3, .inl (fun _ => 0))))) a (some (.inr (8, [.ref q1, .ref q2, .ref q3, .int 0, .ref q4, .int 0, .ref q5, .null, .null, .null, .null, .null, .int 0, .int 0, .int 0]))) q6 = none := hq6
  have U5 : Bk h (va_up (va_up H4 q5 (some (.inl (ca 0, 3, .inl (fun _ => 0))))) a (some (.inr (8, [.ref q1, .ref q2, .ref q3, .int 0, .ref q4, .int 0, .ref q5, .null, .null, .null, .null, .null, .int 0, .int 0, .int 0])))) (Qa (Qa (Qa (Qa (Qa (fun _ => a) 1 (fun _ => q1)) 2 (fun _ => q2)) 3 (fun _ => q3)) 4 (fun _ => q4)) 5 (fun _ => q5)) 6 := B5.up (i := 0) (by decide) (.inr (8, [.ref q1, .ref q2, .ref q3, .int 0, .ref q4, .int 0, .ref q5, .null, .null, .null, .null, .null, .int 0, .int 0, .int 0]))
  generalize eH5 : va_up (va_up H4 q5 (some (.inl (ca 0, 3, .inl (fun _ => 0))))) a (some (.inr (8, [.ref q1, .ref q2, .ref q3, .int 0, .ref q4, .int 0, .ref q5, .null, .null, .null, .null, .null, .int 0, .int 0, .int 0]))) = H5 at *
  have a5 : H5 a = some (.inr (8, [.ref q1, .ref q2, .ref q3, .int 0, .ref q4, .int 0, .ref q5, .null, .null, .null, .null, .null, .int 0, .int 0, .int 0])) := by rw [← eH5]; exact va_up_self _ _ _
  have b5_q1 : H5 q1 = some (.inl (ca 0, 127, .inl (fun _ => 0))) := by rw [← eH5]; exact (va_up_ne _ _ (fun z => d1 z.symm)).trans ((va_up_ne _ _ d1_5).trans b4_q1)
  have b5_q2 : H5 q2 = some (.inl (ca 0, 127, .inl (fun _ => 0))) := by rw [← eH5]; exact (va_up_ne _ _ (fun z => d2 z.symm)).trans ((va_up_ne _ _ d2_5).trans b4_q2)
  have b5_q3 : H5 q3 = some (.inl (ca 0, 508, .inl (fun _ => 0))) := by rw [← eH5]; exact (va_up_ne _ _ (fun z => d3 z.symm)).trans ((va_up_ne _ _ d3_5).trans b4_q3)
  have b5_q4 : H5 q4 = some (.inl (ca 0, 60, .inl (fun _ => 0))) := by rw [← eH5]; exact (va_up_ne _ _ (fun z => d4 z.symm)).trans ((va_up_ne _ _ d4_5).trans b4_q4)
  have b5_q5 : H5 q5 = some (.inl (ca 0, 3, .inl (fun _ => 0))) := by rw [← eH5]; exact (va_up_ne _ _ (fun z => d5 z.symm)).trans (va_up_self _ _ _)
  clear eH5 B5
  have B6 := U5.new (by decide) hq6 (.inl (ca 1, 1501, .inr (.inl (fun _ => 0))))
  have d6 : ¬ a = q6 := ne_none a5 hq6
  have d1_6 : ¬ q1 = q6 := ne_none b5_q1 hq6
  have d2_6 : ¬ q2 = q6 := ne_none b5_q2 hq6
  have d3_6 : ¬ q3 = q6 := ne_none b5_q3 hq6
  have d4_6 : ¬ q4 = q6 := ne_none b5_q4 hq6
  have d5_6 : ¬ q5 = q6 := ne_none b5_q5 hq6
  refine goN go (stp [59]) 160 _ _ _ _ _ _ (fun F hF hF0 => ?_)
  simp only [hF, hF0, ite_not, i_push, i_iload, i_lload, i_aload, i_istore, i_astore, i_lstore, i_iinc, i_bin, i_dv, i_un, i_lbin, i_lsh, i_i2l, i_l2i, i_lcmp, i_dup, i_dup2, i_pop, i_if, i_icmp, i_goto, swG, i_sw, i_getf, i_puti, i_putz, i_putr, i_ald, i_lald, i_aald, i_ast, i_last, i_aast, i_alen, i_new, i_newi, i_newl, i_newq, i_oinit, i_ret, i_zret, i_lret, i_vret, catS, tk, rpush, isO, i_m1, i_m2, i_acopy, i_callV, i_callS, KRet, lget, lput, lputL, lcl0, isL, lv0, List.map_cons, List.map_nil, List.length_cons, List.length_nil, List.cons_append, List.nil_append, Nat.reduceAdd, Nat.reduceSub, Nat.reduceLeDiff, List.replicate_succ, List.replicate_zero, List.getElem?_cons_succ, List.getElem?_cons_zero, List.set_cons_succ, List.set_cons_zero, true_and, and_true, if_true, if_false, ↓reduceIte, Nat.le_refl, Value.category, va_up_app, eq_self, stp, Nat.reduceBEq, Bool.or_false, Bool.false_or, Bool.true_or, Bool.or_true, or_true, true_or, bx_uu, implies_true, true_implies, not_true, not_false_eq_true, false_implies, and_self, Nat.reduceLT, Int32.reduceAdd, Int32.reduceSub, Int32.reduceMul, Int32.reduceLE, Int32.reduceLT, Int32.reduceToNatClampNeg, va_rf_some, Bool.false_eq_true, k_X8_init_0 ca, k_X8_init_1 ca, k_X8_init_4 ca, k_X8_init_5 ca, k_X8_init_7 ca, k_X8_init_9 ca, k_X8_init_12 ca, k_X8_init_13 ca, k_X8_init_15 ca, k_X8_init_17 ca, k_X8_init_20 ca, k_X8_init_21 ca, k_X8_init_24 ca, k_X8_init_26 ca, k_X8_init_29 ca, k_X8_init_30 ca, k_X8_init_32 ca, k_X8_init_34 ca, k_X8_init_37 ca, k_X8_init_38 ca, k_X8_init_39 ca, k_X8_init_41 ca, k_X8_init_44 ca, k_X8_init_45 ca, k_X8_init_48 ca, k_X8_init_50 ca, k_X8_init_53 ca, k_X8_init_54 ca, k_X8_init_57 ca, k_X8_init_59 ca, k_X8_init_62 ca, k_X8_init_63 ca, k_X8_init_65 ca, k_X8_init_67 ca, k_X8_init_70 ca, k_X8_init_71 ca, k_X8_init_74 ca, k_X8_init_76 ca, k_X8_init_79 ca, k_X8_init_80 ca, k_X8_init_82 ca, k_X8_init_84 ca, k_X8_init_87 ca, k_X8_init_88 ca, k_X8_init_89 ca, k_X8_init_90 ca, k_X8_init_92 ca, k_X8_init_95 ca, k_X8_init_96 ca, k_X8_init_99 ca, k_X8_init_100 ca, k_X8_init_101 ca, k_X8_init_102 ca, k_X8_init_103 ca, k_X8_init_104 ca, k_X8_init_105 ca, k_X8_init_106 ca, k_X8_init_109 ca, k_X8_init_112 ca, k_X8_init_113 ca, k_X8_init_116 ca, k_X8_init_118 ca, k_X8_init_120 ca, k_X8_init_121 ca, k_X8_init_122 ca, k_X8_init_125 ca, k_X8_init_127 ca, k_X8_init_129 ca, k_X8_init_130 ca, k_X8_init_131 ca, k_X8_init_132 ca, k_X8_init_133 ca, k_X8_init_134 ca, k_X8_init_137 ca, k_X8_init_138 ca, k_X8_init_141 ca, k_X8_init_142 ca, k_X8_init_145 ca, k_X8_init_146 ca, k_X8_init_147 ca, k_X8_init_150 ca, k_X8_init_151 ca, k_X8_init_152 ca, k_X8_init_155 ca, k_X8_init_156 ca, k_X8_init_159 ca, k_X8_init_160 ca, k_X8_init_161 ca, k_X8_init_164 ca, k_X8_init_165 ca, k_X8_init_166 ca, k_X8_init_169 ca, k_X8_init_170 ca, k_X8_init_173 ca, k_X8_init_174 ca, k_X8_init_175 ca, k_X8_init_178 ca, k_X8_init_179 ca, k_X8_init_180 ca, k_X8_init_183 ca, k_X8_init_184 ca, k_X8_init_187 ca, k_X8_init_188 ca, k_X8_init_189 ca, k_X8_init_191 ca, k_X8_init_192 ca, k_X8_init_195 ca, k_X8_init_198 ca, a5, d6]
  try clear hF hF0 F
  intro q7 hq7
  have hq7 : va_up (va_up H5 q6 (some (.inl (ca 1, 1501, .inr (.inl (fun _ => 0)))))) a (some (.inr (8, [.ref q1, .ref q2, .ref q3, .int 0, .ref q4, .int 0, .ref q5, .ref q6, .null, .null, .null, .null, .int 0, .int 0, .int 0]))) q7 = none := hq7
  have U6 : Bk h (va_up (va_up H5 q6 (some (.inl (ca 1, 1501, .inr (.inl (fun _ => 0)))))) a (some (.inr (8, [.ref q1, .ref q2, .ref q3, .int 0, .ref q4, .int 0, .ref q5, .ref q6, .null, .null, .null, .null, .int 0, .int 0, .int 0])))) (Qa (Qa (Qa (Qa (Qa (Qa (fun _ => a) 1 (fun _ => q1)) 2 (fun _ => q2)) 3 (fun _ => q3)) 4 (fun _ => q4)) 5 (fun _ => q5)) 6 (fun _ => q6)) 7 := B6.up (i := 0) (by decide) (.inr (8, [.ref q1, .ref q2, .ref q3, .int 0, .ref q4, .int 0, .ref q5, .ref q6, .null, .null, .null, .null, .int 0, .int 0, .int 0]))
  generalize eH6 : va_up (va_up H5 q6 (some (.inl (ca 1, 1501, .inr (.inl (fun _ => 0)))))) a (some (.inr (8, [.ref q1, .ref q2, .ref q3, .int 0, .ref q4, .int 0, .ref q5, .ref q6, .null, .null, .null, .null, .int 0, .int 0, .int 0]))) = H6 at *
  have a6 : H6 a = some (.inr (8, [.ref q1, .ref q2, .ref q3, .int 0, .ref q4, .int 0, .ref q5, .ref q6, .null, .null, .null, .null, .int 0, .int 0, .int 0])) := by rw [← eH6]; exact va_up_self _ _ _
  have b6_q1 : H6 q1 = some (.inl (ca 0, 127, .inl (fun _ => 0))) := by rw [← eH6]; exact (va_up_ne _ _ (fun z => d1 z.symm)).trans ((va_up_ne _ _ d1_6).trans b5_q1)
  have b6_q2 : H6 q2 = some (.inl (ca 0, 127, .inl (fun _ => 0))) := by rw [← eH6]; exact (va_up_ne _ _ (fun z => d2 z.symm)).trans ((va_up_ne _ _ d2_6).trans b5_q2)
  have b6_q3 : H6 q3 = some (.inl (ca 0, 508, .inl (fun _ => 0))) := by rw [← eH6]; exact (va_up_ne _ _ (fun z => d3 z.symm)).trans ((va_up_ne _ _ d3_6).trans b5_q3)
  have b6_q4 : H6 q4 = some (.inl (ca 0, 60, .inl (fun _ => 0))) := by rw [← eH6]; exact (va_up_ne _ _ (fun z => d4 z.symm)).trans ((va_up_ne _ _ d4_6).trans b5_q4)
  have b6_q5 : H6 q5 = some (.inl (ca 0, 3, .inl (fun _ => 0))) := by rw [← eH6]; exact (va_up_ne _ _ (fun z => d5 z.symm)).trans ((va_up_ne _ _ d5_6).trans b5_q5)
  have b6_q6 : H6 q6 = some (.inl (ca 1, 1501, .inr (.inl (fun _ => 0)))) := by rw [← eH6]; exact (va_up_ne _ _ (fun z => d6 z.symm)).trans (va_up_self _ _ _)
  clear eH6 B6
  have B7 := U6.new (by decide) hq7 (.inl (ca 0, 1501, .inl (fun _ => 0)))
  have d7 : ¬ a = q7 := ne_none a6 hq7
  have d1_7 : ¬ q1 = q7 := ne_none b6_q1 hq7
  have d2_7 : ¬ q2 = q7 := ne_none b6_q2 hq7
  have d3_7 : ¬ q3 = q7 := ne_none b6_q3 hq7
  have d4_7 : ¬ q4 = q7 := ne_none b6_q4 hq7
  have d5_7 : ¬ q5 = q7 := ne_none b6_q5 hq7
  have d6_7 : ¬ q6 = q7 := ne_none b6_q6 hq7
  refine goN go (stp [67]) 160 _ _ _ _ _ _ (fun F hF hF0 => ?_)
  simp only [hF, hF0, ite_not, i_push, i_iload, i_lload, i_aload, i_istore, i_astore, i_lstore, i_iinc, i_bin, i_dv, i_un, i_lbin, i_lsh, i_i2l, i_l2i, i_lcmp, i_dup, i_dup2, i_pop, i_if, i_icmp, i_goto, swG, i_sw, i_getf, i_puti, i_putz, i_putr, i_ald, i_lald, i_aald, i_ast, i_last, i_aast, i_alen, i_new, i_newi, i_newl, i_newq, i_oinit, i_ret, i_zret, i_lret, i_vret, catS, tk, rpush, isO, i_m1, i_m2, i_acopy, i_callV, i_callS, KRet, lget, lput, lputL, lcl0, isL, lv0, List.map_cons, List.map_nil, List.length_cons, List.length_nil, List.cons_append, List.nil_append, Nat.reduceAdd, Nat.reduceSub, Nat.reduceLeDiff, List.replicate_succ, List.replicate_zero, List.getElem?_cons_succ, List.getElem?_cons_zero, List.set_cons_succ, List.set_cons_zero, true_and, and_true, if_true, if_false, ↓reduceIte, Nat.le_refl, Value.category, va_up_app, eq_self, stp, Nat.reduceBEq, Bool.or_false, Bool.false_or, Bool.true_or, Bool.or_true, or_true, true_or, bx_uu, implies_true, true_implies, not_true, not_false_eq_true, false_implies, and_self, Nat.reduceLT, Int32.reduceAdd, Int32.reduceSub, Int32.reduceMul, Int32.reduceLE, Int32.reduceLT, Int32.reduceToNatClampNeg, va_rf_some, Bool.false_eq_true, k_X8_init_0 ca, k_X8_init_1 ca, k_X8_init_4 ca, k_X8_init_5 ca, k_X8_init_7 ca, k_X8_init_9 ca, k_X8_init_12 ca, k_X8_init_13 ca, k_X8_init_15 ca, k_X8_init_17 ca, k_X8_init_20 ca, k_X8_init_21 ca, k_X8_init_24 ca, k_X8_init_26 ca, k_X8_init_29 ca, k_X8_init_30 ca, k_X8_init_32 ca, k_X8_init_34 ca, k_X8_init_37 ca, k_X8_init_38 ca, k_X8_init_39 ca, k_X8_init_41 ca, k_X8_init_44 ca, k_X8_init_45 ca, k_X8_init_48 ca, k_X8_init_50 ca, k_X8_init_53 ca, k_X8_init_54 ca, k_X8_init_57 ca, k_X8_init_59 ca, k_X8_init_62 ca, k_X8_init_63 ca, k_X8_init_65 ca, k_X8_init_67 ca, k_X8_init_70 ca, k_X8_init_71 ca, k_X8_init_74 ca, k_X8_init_76 ca, k_X8_init_79 ca, k_X8_init_80 ca, k_X8_init_82 ca, k_X8_init_84 ca, k_X8_init_87 ca, k_X8_init_88 ca, k_X8_init_89 ca, k_X8_init_90 ca, k_X8_init_92 ca, k_X8_init_95 ca, k_X8_init_96 ca, k_X8_init_99 ca, k_X8_init_100 ca, k_X8_init_101 ca, k_X8_init_102 ca, k_X8_init_103 ca, k_X8_init_104 ca, k_X8_init_105 ca, k_X8_init_106 ca, k_X8_init_109 ca, k_X8_init_112 ca, k_X8_init_113 ca, k_X8_init_116 ca, k_X8_init_118 ca, k_X8_init_120 ca, k_X8_init_121 ca, k_X8_init_122 ca, k_X8_init_125 ca, k_X8_init_127 ca, k_X8_init_129 ca, k_X8_init_130 ca, k_X8_init_131 ca, k_X8_init_132 ca, k_X8_init_133 ca, k_X8_init_134 ca, k_X8_init_137 ca, k_X8_init_138 ca, k_X8_init_141 ca, k_X8_init_142 ca, k_X8_init_145 ca, k_X8_init_146 ca, k_X8_init_147 ca, k_X8_init_150 ca, k_X8_init_151 ca, k_X8_init_152 ca, k_X8_init_155 ca, k_X8_init_156 ca, k_X8_init_159 ca, k_X8_init_160 ca, k_X8_init_161 ca, k_X8_init_164 ca, k_X8_init_165 ca, k_X8_init_166 ca, k_X8_init_169 ca, k_X8_init_170 ca, k_X8_init_173 ca, k_X8_init_174 ca, k_X8_init_175 ca, k_X8_init_178 ca, k_X8_init_179 ca, k_X8_init_180 ca, k_X8_init_183 ca, k_X8_init_184 ca, k_X8_init_187 ca, k_X8_init_188 ca, k_X8_init_189 ca, k_X8_init_191 ca, k_X8_init_192 ca, k_X8_init_195 ca, k_X8_init_198 ca, a6, d7]
  try clear hF hF0 F
  intro q8 hq8
  have hq8 : va_up (va_up H6 q7 (some (.inl (ca 0, 1501, .inl (fun _ => 0))))) a (some (.inr (8, [.ref q1, .ref q2, .ref q3, .int 0, .ref q4, .int 0, .ref q5, .ref q6, .ref q7, .null, .null, .null, .int 0, .int 0, .int 0]))) q8 = none := hq8
  have U7 : Bk h (va_up (va_up H6 q7 (some (.inl (ca 0, 1501, .inl (fun _ => 0))))) a (some (.inr (8, [.ref q1, .ref q2, .ref q3, .int 0, .ref q4, .int 0, .ref q5, .ref q6, .ref q7, .null, .null, .null, .int 0, .int 0, .int 0])))) (Qa (Qa (Qa (Qa (Qa (Qa (Qa (fun _ => a) 1 (fun _ => q1)) 2 (fun _ => q2)) 3 (fun _ => q3)) 4 (fun _ => q4)) 5 (fun _ => q5)) 6 (fun _ => q6)) 7 (fun _ => q7)) 8 := B7.up (i := 0) (by decide) (.inr (8, [.ref q1, .ref q2, .ref q3, .int 0, .ref q4, .int 0, .ref q5, .ref q6, .ref q7, .null, .null, .null, .int 0, .int 0, .int 0]))
  generalize eH7 : va_up (va_up H6 q7 (some (.inl (ca 0, 1501, .inl (fun _ => 0))))) a (some (.inr (8, [.ref q1, .ref q2, .ref q3, .int 0, .ref q4, .int 0, .ref q5, .ref q6, .ref q7, .null, .null, .null, .int 0, .int 0, .int 0]))) = H7 at *
  have a7 : H7 a = some (.inr (8, [.ref q1, .ref q2, .ref q3, .int 0, .ref q4, .int 0, .ref q5, .ref q6, .ref q7, .null, .null, .null, .int 0, .int 0, .int 0])) := by rw [← eH7]; exact va_up_self _ _ _
  have b7_q1 : H7 q1 = some (.inl (ca 0, 127, .inl (fun _ => 0))) := by rw [← eH7]; exact (va_up_ne _ _ (fun z => d1 z.symm)).trans ((va_up_ne _ _ d1_7).trans b6_q1)
  have b7_q2 : H7 q2 = some (.inl (ca 0, 127, .inl (fun _ => 0))) := by rw [← eH7]; exact (va_up_ne _ _ (fun z => d2 z.symm)).trans ((va_up_ne _ _ d2_7).trans b6_q2)
  have b7_q3 : H7 q3 = some (.inl (ca 0, 508, .inl (fun _ => 0))) := by rw [← eH7]; exact (va_up_ne _ _ (fun z => d3 z.symm)).trans ((va_up_ne _ _ d3_7).trans b6_q3)
  have b7_q4 : H7 q4 = some (.inl (ca 0, 60, .inl (fun _ => 0))) := by rw [← eH7]; exact (va_up_ne _ _ (fun z => d4 z.symm)).trans ((va_up_ne _ _ d4_7).trans b6_q4)
  have b7_q5 : H7 q5 = some (.inl (ca 0, 3, .inl (fun _ => 0))) := by rw [← eH7]; exact (va_up_ne _ _ (fun z => d5 z.symm)).trans ((va_up_ne _ _ d5_7).trans b6_q5)
  have b7_q6 : H7 q6 = some (.inl (ca 1, 1501, .inr (.inl (fun _ => 0)))) := by rw [← eH7]; exact (va_up_ne _ _ (fun z => d6 z.symm)).trans ((va_up_ne _ _ d6_7).trans b6_q6)
  have b7_q7 : H7 q7 = some (.inl (ca 0, 1501, .inl (fun _ => 0))) := by rw [← eH7]; exact (va_up_ne _ _ (fun z => d7 z.symm)).trans (va_up_self _ _ _)
  clear eH7 B7
  have B8 := U7.new (by decide) hq8 (.inl (ca 2, 61, .inl (fun _ => 0)))
  have d8 : ¬ a = q8 := ne_none a7 hq8
  have d1_8 : ¬ q1 = q8 := ne_none b7_q1 hq8
  have d2_8 : ¬ q2 = q8 := ne_none b7_q2 hq8
  have d3_8 : ¬ q3 = q8 := ne_none b7_q3 hq8
  have d4_8 : ¬ q4 = q8 := ne_none b7_q4 hq8
  have d5_8 : ¬ q5 = q8 := ne_none b7_q5 hq8
  have d6_8 : ¬ q6 = q8 := ne_none b7_q6 hq8
  have d7_8 : ¬ q7 = q8 := ne_none b7_q7 hq8
  refine goN go (stp [76]) 160 _ _ _ _ _ _ (fun F hF hF0 => ?_)
  simp only [hF, hF0, ite_not, i_push, i_iload, i_lload, i_aload, i_istore, i_astore, i_lstore, i_iinc, i_bin, i_dv, i_un, i_lbin, i_lsh, i_i2l, i_l2i, i_lcmp, i_dup, i_dup2, i_pop, i_if, i_icmp, i_goto, swG, i_sw, i_getf, i_puti, i_putz, i_putr, i_ald, i_lald, i_aald, i_ast, i_last, i_aast, i_alen, i_new, i_newi, i_newl, i_newq, i_oinit, i_ret, i_zret, i_lret, i_vret, catS, tk, rpush, isO, i_m1, i_m2, i_acopy, i_callV, i_callS, KRet, lget, lput, lputL, lcl0, isL, lv0, List.map_cons, List.map_nil, List.length_cons, List.length_nil, List.cons_append, List.nil_append, Nat.reduceAdd, Nat.reduceSub, Nat.reduceLeDiff, List.replicate_succ, List.replicate_zero, List.getElem?_cons_succ, List.getElem?_cons_zero, List.set_cons_succ, List.set_cons_zero, true_and, and_true, if_true, if_false, ↓reduceIte, Nat.le_refl, Value.category, va_up_app, eq_self, stp, Nat.reduceBEq, Bool.or_false, Bool.false_or, Bool.true_or, Bool.or_true, or_true, true_or, bx_uu, implies_true, true_implies, not_true, not_false_eq_true, false_implies, and_self, Nat.reduceLT, Int32.reduceAdd, Int32.reduceSub, Int32.reduceMul, Int32.reduceLE, Int32.reduceLT, Int32.reduceToNatClampNeg, va_rf_some, Bool.false_eq_true, k_X8_init_0 ca, k_X8_init_1 ca, k_X8_init_4 ca, k_X8_init_5 ca, k_X8_init_7 ca, k_X8_init_9 ca, k_X8_init_12 ca, k_X8_init_13 ca, k_X8_init_15 ca, k_X8_init_17 ca, k_X8_init_20 ca, k_X8_init_21 ca, k_X8_init_24 ca, k_X8_init_26 ca, k_X8_init_29 ca, k_X8_init_30 ca, k_X8_init_32 ca, k_X8_init_34 ca, k_X8_init_37 ca, k_X8_init_38 ca, k_X8_init_39 ca, k_X8_init_41 ca, k_X8_init_44 ca, k_X8_init_45 ca, k_X8_init_48 ca, k_X8_init_50 ca, k_X8_init_53 ca, k_X8_init_54 ca, k_X8_init_57 ca, k_X8_init_59 ca, k_X8_init_62 ca, k_X8_init_63 ca, k_X8_init_65 ca, k_X8_init_67 ca, k_X8_init_70 ca, k_X8_init_71 ca, k_X8_init_74 ca, k_X8_init_76 ca, k_X8_init_79 ca, k_X8_init_80 ca, k_X8_init_82 ca, k_X8_init_84 ca, k_X8_init_87 ca, k_X8_init_88 ca, k_X8_init_89 ca, k_X8_init_90 ca, k_X8_init_92 ca, k_X8_init_95 ca, k_X8_init_96 ca, k_X8_init_99 ca, k_X8_init_100 ca, k_X8_init_101 ca, k_X8_init_102 ca, k_X8_init_103 ca, k_X8_init_104 ca, k_X8_init_105 ca, k_X8_init_106 ca, k_X8_init_109 ca, k_X8_init_112 ca, k_X8_init_113 ca, k_X8_init_116 ca, k_X8_init_118 ca, k_X8_init_120 ca, k_X8_init_121 ca, k_X8_init_122 ca, k_X8_init_125 ca, k_X8_init_127 ca, k_X8_init_129 ca, k_X8_init_130 ca, k_X8_init_131 ca, k_X8_init_132 ca, k_X8_init_133 ca, k_X8_init_134 ca, k_X8_init_137 ca, k_X8_init_138 ca, k_X8_init_141 ca, k_X8_init_142 ca, k_X8_init_145 ca, k_X8_init_146 ca, k_X8_init_147 ca, k_X8_init_150 ca, k_X8_init_151 ca, k_X8_init_152 ca, k_X8_init_155 ca, k_X8_init_156 ca, k_X8_init_159 ca, k_X8_init_160 ca, k_X8_init_161 ca, k_X8_init_164 ca, k_X8_init_165 ca, k_X8_init_166 ca, k_X8_init_169 ca, k_X8_init_170 ca, k_X8_init_173 ca, k_X8_init_174 ca, k_X8_init_175 ca, k_X8_init_178 ca, k_X8_init_179 ca, k_X8_init_180 ca, k_X8_init_183 ca, k_X8_init_184 ca, k_X8_init_187 ca, k_X8_init_188 ca, k_X8_init_189 ca, k_X8_init_191 ca, k_X8_init_192 ca, k_X8_init_195 ca, k_X8_init_198 ca, a7, d8]
  try clear hF hF0 F
  intro q9 hq9
  have hq9 : va_up (va_up H7 q8 (some (.inl (ca 2, 61, .inl (fun _ => 0))))) a (some (.inr (8, [.ref q1, .ref q2, .ref q3, .int 0, .ref q4, .int 0, .ref q5, .ref q6, .ref q7, .ref q8, .null, .null, .int 0, .int 0, .int 0]))) q9 = none := hq9
  have U8 : Bk h (va_up (va_up H7 q8 (some (.inl (ca 2, 61, .inl (fun _ => 0))))) a (some (.inr (8, [.ref q1, .ref q2, .ref q3, .int 0, .ref q4, .int 0, .ref q5, .ref q6, .ref q7, .ref q8, .null, .null, .int 0, .int 0, .int 0])))) (Qa (Qa (Qa (Qa (Qa (Qa (Qa (Qa (fun _ => a) 1 (fun _ => q1)) 2 (fun _ => q2)) 3 (fun _ => q3)) 4 (fun _ => q4)) 5 (fun _ => q5)) 6 (fun _ => q6)) 7 (fun _ => q7)) 8 (fun _ => q8)) 9 := B8.up (i := 0) (by decide) (.inr (8, [.ref q1, .ref q2, .ref q3, .int 0, .ref q4, .int 0, .ref q5, .ref q6, .ref q7, .ref q8, .null, .null, .int 0, .int 0, .int 0]))
  generalize eH8 : va_up (va_up H7 q8 (some (.inl (ca 2, 61, .inl (fun _ => 0))))) a (some (.inr (8, [.ref q1, .ref q2, .ref q3, .int 0, .ref q4, .int 0, .ref q5, .ref q6, .ref q7, .ref q8, .null, .null, .int 0, .int 0, .int 0]))) = H8 at *
  have a8 : H8 a = some (.inr (8, [.ref q1, .ref q2, .ref q3, .int 0, .ref q4, .int 0, .ref q5, .ref q6, .ref q7, .ref q8, .null, .null, .int 0, .int 0, .int 0])) := by rw [← eH8]; exact va_up_self _ _ _
  have b8_q1 : H8 q1 = some (.inl (ca 0, 127, .inl (fun _ => 0))) := by rw [← eH8]; exact (va_up_ne _ _ (fun z => d1 z.symm)).trans ((va_up_ne _ _ d1_8).trans b7_q1)
  have b8_q2 : H8 q2 = some (.inl (ca 0, 127, .inl (fun _ => 0))) := by rw [← eH8]; exact (va_up_ne _ _ (fun z => d2 z.symm)).trans ((va_up_ne _ _ d2_8).trans b7_q2)
  have b8_q3 : H8 q3 = some (.inl (ca 0, 508, .inl (fun _ => 0))) := by rw [← eH8]; exact (va_up_ne _ _ (fun z => d3 z.symm)).trans ((va_up_ne _ _ d3_8).trans b7_q3)
  have b8_q4 : H8 q4 = some (.inl (ca 0, 60, .inl (fun _ => 0))) := by rw [← eH8]; exact (va_up_ne _ _ (fun z => d4 z.symm)).trans ((va_up_ne _ _ d4_8).trans b7_q4)
  have b8_q5 : H8 q5 = some (.inl (ca 0, 3, .inl (fun _ => 0))) := by rw [← eH8]; exact (va_up_ne _ _ (fun z => d5 z.symm)).trans ((va_up_ne _ _ d5_8).trans b7_q5)
  have b8_q6 : H8 q6 = some (.inl (ca 1, 1501, .inr (.inl (fun _ => 0)))) := by rw [← eH8]; exact (va_up_ne _ _ (fun z => d6 z.symm)).trans ((va_up_ne _ _ d6_8).trans b7_q6)
  have b8_q7 : H8 q7 = some (.inl (ca 0, 1501, .inl (fun _ => 0))) := by rw [← eH8]; exact (va_up_ne _ _ (fun z => d7 z.symm)).trans ((va_up_ne _ _ d7_8).trans b7_q7)
  have b8_q8 : H8 q8 = some (.inl (ca 2, 61, .inl (fun _ => 0))) := by rw [← eH8]; exact (va_up_ne _ _ (fun z => d8 z.symm)).trans (va_up_self _ _ _)
  clear eH8 B8
  have B9 := U8.new (by decide) hq9 (.inl (ca 2, 18377, .inl (fun _ => 0)))
  have d9 : ¬ a = q9 := ne_none a8 hq9
  have d1_9 : ¬ q1 = q9 := ne_none b8_q1 hq9
  have d2_9 : ¬ q2 = q9 := ne_none b8_q2 hq9
  have d3_9 : ¬ q3 = q9 := ne_none b8_q3 hq9
  have d4_9 : ¬ q4 = q9 := ne_none b8_q4 hq9
  have d5_9 : ¬ q5 = q9 := ne_none b8_q5 hq9
  have d6_9 : ¬ q6 = q9 := ne_none b8_q6 hq9
  have d7_9 : ¬ q7 = q9 := ne_none b8_q7 hq9
  have d8_9 : ¬ q8 = q9 := ne_none b8_q8 hq9
  refine goN go (stp [84]) 160 _ _ _ _ _ _ (fun F hF hF0 => ?_)
  simp only [hF, hF0, ite_not, i_push, i_iload, i_lload, i_aload, i_istore, i_astore, i_lstore, i_iinc, i_bin, i_dv, i_un, i_lbin, i_lsh, i_i2l, i_l2i, i_lcmp, i_dup, i_dup2, i_pop, i_if, i_icmp, i_goto, swG, i_sw, i_getf, i_puti, i_putz, i_putr, i_ald, i_lald, i_aald, i_ast, i_last, i_aast, i_alen, i_new, i_newi, i_newl, i_newq, i_oinit, i_ret, i_zret, i_lret, i_vret, catS, tk, rpush, isO, i_m1, i_m2, i_acopy, i_callV, i_callS, KRet, lget, lput, lputL, lcl0, isL, lv0, List.map_cons, List.map_nil, List.length_cons, List.length_nil, List.cons_append, List.nil_append, Nat.reduceAdd, Nat.reduceSub, Nat.reduceLeDiff, List.replicate_succ, List.replicate_zero, List.getElem?_cons_succ, List.getElem?_cons_zero, List.set_cons_succ, List.set_cons_zero, true_and, and_true, if_true, if_false, ↓reduceIte, Nat.le_refl, Value.category, va_up_app, eq_self, stp, Nat.reduceBEq, Bool.or_false, Bool.false_or, Bool.true_or, Bool.or_true, or_true, true_or, bx_uu, implies_true, true_implies, not_true, not_false_eq_true, false_implies, and_self, Nat.reduceLT, Int32.reduceAdd, Int32.reduceSub, Int32.reduceMul, Int32.reduceLE, Int32.reduceLT, Int32.reduceToNatClampNeg, va_rf_some, Bool.false_eq_true, k_X8_init_0 ca, k_X8_init_1 ca, k_X8_init_4 ca, k_X8_init_5 ca, k_X8_init_7 ca, k_X8_init_9 ca, k_X8_init_12 ca, k_X8_init_13 ca, k_X8_init_15 ca, k_X8_init_17 ca, k_X8_init_20 ca, k_X8_init_21 ca, k_X8_init_24 ca, k_X8_init_26 ca, k_X8_init_29 ca, k_X8_init_30 ca, k_X8_init_32 ca, k_X8_init_34 ca, k_X8_init_37 ca, k_X8_init_38 ca, k_X8_init_39 ca, k_X8_init_41 ca, k_X8_init_44 ca, k_X8_init_45 ca, k_X8_init_48 ca, k_X8_init_50 ca, k_X8_init_53 ca, k_X8_init_54 ca, k_X8_init_57 ca, k_X8_init_59 ca, k_X8_init_62 ca, k_X8_init_63 ca, k_X8_init_65 ca, k_X8_init_67 ca, k_X8_init_70 ca, k_X8_init_71 ca, k_X8_init_74 ca, k_X8_init_76 ca, k_X8_init_79 ca, k_X8_init_80 ca, k_X8_init_82 ca, k_X8_init_84 ca, k_X8_init_87 ca, k_X8_init_88 ca, k_X8_init_89 ca, k_X8_init_90 ca, k_X8_init_92 ca, k_X8_init_95 ca, k_X8_init_96 ca, k_X8_init_99 ca, k_X8_init_100 ca, k_X8_init_101 ca, k_X8_init_102 ca, k_X8_init_103 ca, k_X8_init_104 ca, k_X8_init_105 ca, k_X8_init_106 ca, k_X8_init_109 ca, k_X8_init_112 ca, k_X8_init_113 ca, k_X8_init_116 ca, k_X8_init_118 ca, k_X8_init_120 ca, k_X8_init_121 ca, k_X8_init_122 ca, k_X8_init_125 ca, k_X8_init_127 ca, k_X8_init_129 ca, k_X8_init_130 ca, k_X8_init_131 ca, k_X8_init_132 ca, k_X8_init_133 ca, k_X8_init_134 ca, k_X8_init_137 ca, k_X8_init_138 ca, k_X8_init_141 ca, k_X8_init_142 ca, k_X8_init_145 ca, k_X8_init_146 ca, k_X8_init_147 ca, k_X8_init_150 ca, k_X8_init_151 ca, k_X8_init_152 ca, k_X8_init_155 ca, k_X8_init_156 ca, k_X8_init_159 ca, k_X8_init_160 ca, k_X8_init_161 ca, k_X8_init_164 ca, k_X8_init_165 ca, k_X8_init_166 ca, k_X8_init_169 ca, k_X8_init_170 ca, k_X8_init_173 ca, k_X8_init_174 ca, k_X8_init_175 ca, k_X8_init_178 ca, k_X8_init_179 ca, k_X8_init_180 ca, k_X8_init_183 ca, k_X8_init_184 ca, k_X8_init_187 ca, k_X8_init_188 ca, k_X8_init_189 ca, k_X8_init_191 ca, k_X8_init_192 ca, k_X8_init_195 ca, k_X8_init_198 ca, a8, d9]
  try clear hF hF0 F
  intro q10 hq10
  have hq10 : va_up (va_up H8 q9 (some (.inl (ca 2, 18377, .inl (fun _ => 0))))) a (some (.inr (8, [.ref q1, .ref q2, .ref q3, .int 0, .ref q4, .int 0, .ref q5, .ref q6, .ref q7, .ref q8, .ref q9, .null, .int 0, .int 0, .int 0]))) q10 = none := hq10
  have U9 : Bk h (va_up (va_up H8 q9 (some (.inl (ca 2, 18377, .inl (fun _ => 0))))) a (some (.inr (8, [.ref q1, .ref q2, .ref q3, .int 0, .ref q4, .int 0, .ref q5, .ref q6, .ref q7, .ref q8, .ref q9, .null, .int 0, .int 0, .int 0])))) (Qa (Qa (Qa (Qa (Qa (Qa (Qa (Qa (Qa (fun _ => a) 1 (fun _ => q1)) 2 (fun _ => q2)) 3 (fun _ => q3)) 4 (fun _ => q4)) 5 (fun _ => q5)) 6 (fun _ => q6)) 7 (fun _ => q7)) 8 (fun _ => q8)) 9 (fun _ => q9)) 10 := B9.up (i := 0) (by decide) (.inr (8, [.ref q1, .ref q2, .ref q3, .int 0, .ref q4, .int 0, .ref q5, .ref q6, .ref q7, .ref q8, .ref q9, .null, .int 0, .int 0, .int 0]))
  generalize eH9 : va_up (va_up H8 q9 (some (.inl (ca 2, 18377, .inl (fun _ => 0))))) a (some (.inr (8, [.ref q1, .ref q2, .ref q3, .int 0, .ref q4, .int 0, .ref q5, .ref q6, .ref q7, .ref q8, .ref q9, .null, .int 0, .int 0, .int 0]))) = H9 at *
  have a9 : H9 a = some (.inr (8, [.ref q1, .ref q2, .ref q3, .int 0, .ref q4, .int 0, .ref q5, .ref q6, .ref q7, .ref q8, .ref q9, .null, .int 0, .int 0, .int 0])) := by rw [← eH9]; exact va_up_self _ _ _
  have b9_q1 : H9 q1 = some (.inl (ca 0, 127, .inl (fun _ => 0))) := by rw [← eH9]; exact (va_up_ne _ _ (fun z => d1 z.symm)).trans ((va_up_ne _ _ d1_9).trans b8_q1)
  have b9_q2 : H9 q2 = some (.inl (ca 0, 127, .inl (fun _ => 0))) := by rw [← eH9]; exact (va_up_ne _ _ (fun z => d2 z.symm)).trans ((va_up_ne _ _ d2_9).trans b8_q2)
  have b9_q3 : H9 q3 = some (.inl (ca 0, 508, .inl (fun _ => 0))) := by rw [← eH9]; exact (va_up_ne _ _ (fun z => d3 z.symm)).trans ((va_up_ne _ _ d3_9).trans b8_q3)
  have b9_q4 : H9 q4 = some (.inl (ca 0, 60, .inl (fun _ => 0))) := by rw [← eH9]; exact (va_up_ne _ _ (fun z => d4 z.symm)).trans ((va_up_ne _ _ d4_9).trans b8_q4)
  have b9_q5 : H9 q5 = some (.inl (ca 0, 3, .inl (fun _ => 0))) := by rw [← eH9]; exact (va_up_ne _ _ (fun z => d5 z.symm)).trans ((va_up_ne _ _ d5_9).trans b8_q5)
  have b9_q6 : H9 q6 = some (.inl (ca 1, 1501, .inr (.inl (fun _ => 0)))) := by rw [← eH9]; exact (va_up_ne _ _ (fun z => d6 z.symm)).trans ((va_up_ne _ _ d6_9).trans b8_q6)
  have b9_q7 : H9 q7 = some (.inl (ca 0, 1501, .inl (fun _ => 0))) := by rw [← eH9]; exact (va_up_ne _ _ (fun z => d7 z.symm)).trans ((va_up_ne _ _ d7_9).trans b8_q7)
  have b9_q8 : H9 q8 = some (.inl (ca 2, 61, .inl (fun _ => 0))) := by rw [← eH9]; exact (va_up_ne _ _ (fun z => d8 z.symm)).trans ((va_up_ne _ _ d8_9).trans b8_q8)
  have b9_q9 : H9 q9 = some (.inl (ca 2, 18377, .inl (fun _ => 0))) := by rw [← eH9]; exact (va_up_ne _ _ (fun z => d9 z.symm)).trans (va_up_self _ _ _)
  clear eH9 B9
  have B10 := U9.new (by decide) hq10 (.inl (ca 0, 9, .inl (fun _ => 0)))
  have d10 : ¬ a = q10 := ne_none a9 hq10
  have d1_10 : ¬ q1 = q10 := ne_none b9_q1 hq10
  have d2_10 : ¬ q2 = q10 := ne_none b9_q2 hq10
  have d3_10 : ¬ q3 = q10 := ne_none b9_q3 hq10
  have d4_10 : ¬ q4 = q10 := ne_none b9_q4 hq10
  have d5_10 : ¬ q5 = q10 := ne_none b9_q5 hq10
  have d6_10 : ¬ q6 = q10 := ne_none b9_q6 hq10
  have d7_10 : ¬ q7 = q10 := ne_none b9_q7 hq10
  have d8_10 : ¬ q8 = q10 := ne_none b9_q8 hq10
  have d9_10 : ¬ q9 = q10 := ne_none b9_q9 hq10
  have U10 : Bk h (va_up (va_up H9 q10 (some (.inl (ca 0, 9, .inl (fun _ => 0))))) a (some (.inr (8, [.ref q1, .ref q2, .ref q3, .int 0, .ref q4, .int 0, .ref q5, .ref q6, .ref q7, .ref q8, .ref q9, .ref q10, .int 0, .int 0, .int 0])))) (Qa (Qa (Qa (Qa (Qa (Qa (Qa (Qa (Qa (Qa (fun _ => a) 1 (fun _ => q1)) 2 (fun _ => q2)) 3 (fun _ => q3)) 4 (fun _ => q4)) 5 (fun _ => q5)) 6 (fun _ => q6)) 7 (fun _ => q7)) 8 (fun _ => q8)) 9 (fun _ => q9)) 10 (fun _ => q10)) 11 := B10.up (i := 0) (by decide) _
  refine goN go (stp [89]) 160 _ _ _ _ _ _ (fun F hF hF0 => ?_)
  simp only [hF, hF0, ite_not, i_push, i_iload, i_lload, i_aload, i_istore, i_astore, i_lstore, i_iinc, i_bin, i_dv, i_un, i_lbin, i_lsh, i_i2l, i_l2i, i_lcmp, i_dup, i_dup2, i_pop, i_if, i_icmp, i_goto, swG, i_sw, i_getf, i_puti, i_putz, i_putr, i_ald, i_lald, i_aald, i_ast, i_last, i_aast, i_alen, i_new, i_newi, i_newl, i_newq, i_oinit, i_ret, i_zret, i_lret, i_vret, catS, tk, rpush, isO, i_m1, i_m2, i_acopy, i_callV, i_callS, KRet, lget, lput, lputL, lcl0, isL, lv0, List.map_cons, List.map_nil, List.length_cons, List.length_nil, List.cons_append, List.nil_append, Nat.reduceAdd, Nat.reduceSub, Nat.reduceLeDiff, List.replicate_succ, List.replicate_zero, List.getElem?_cons_succ, List.getElem?_cons_zero, List.set_cons_succ, List.set_cons_zero, true_and, and_true, if_true, if_false, ↓reduceIte, Nat.le_refl, Value.category, va_up_app, eq_self, stp, Nat.reduceBEq, Bool.or_false, Bool.false_or, Bool.true_or, Bool.or_true, or_true, true_or, bx_uu, implies_true, true_implies, not_true, not_false_eq_true, false_implies, and_self, Nat.reduceLT, Int32.reduceAdd, Int32.reduceSub, Int32.reduceMul, Int32.reduceLE, Int32.reduceLT, Int32.reduceToNatClampNeg, va_rf_some, Bool.false_eq_true, k_X8_init_0 ca, k_X8_init_1 ca, k_X8_init_4 ca, k_X8_init_5 ca, k_X8_init_7 ca, k_X8_init_9 ca, k_X8_init_12 ca, k_X8_init_13 ca, k_X8_init_15 ca, k_X8_init_17 ca, k_X8_init_20 ca, k_X8_init_21 ca, k_X8_init_24 ca, k_X8_init_26 ca, k_X8_init_29 ca, k_X8_init_30 ca, k_X8_init_32 ca, k_X8_init_34 ca, k_X8_init_37 ca, k_X8_init_38 ca, k_X8_init_39 ca, k_X8_init_41 ca, k_X8_init_44 ca, k_X8_init_45 ca, k_X8_init_48 ca, k_X8_init_50 ca, k_X8_init_53 ca, k_X8_init_54 ca, k_X8_init_57 ca, k_X8_init_59 ca, k_X8_init_62 ca, k_X8_init_63 ca, k_X8_init_65 ca, k_X8_init_67 ca, k_X8_init_70 ca, k_X8_init_71 ca, k_X8_init_74 ca, k_X8_init_76 ca, k_X8_init_79 ca, k_X8_init_80 ca, k_X8_init_82 ca, k_X8_init_84 ca, k_X8_init_87 ca, k_X8_init_88 ca, k_X8_init_89 ca, k_X8_init_90 ca, k_X8_init_92 ca, k_X8_init_95 ca, k_X8_init_96 ca, k_X8_init_99 ca, k_X8_init_100 ca, k_X8_init_101 ca, k_X8_init_102 ca, k_X8_init_103 ca, k_X8_init_104 ca, k_X8_init_105 ca, k_X8_init_106 ca, k_X8_init_109 ca, k_X8_init_112 ca, k_X8_init_113 ca, k_X8_init_116 ca, k_X8_init_118 ca, k_X8_init_120 ca, k_X8_init_121 ca, k_X8_init_122 ca, k_X8_init_125 ca, k_X8_init_127 ca, k_X8_init_129 ca, k_X8_init_130 ca, k_X8_init_131 ca, k_X8_init_132 ca, k_X8_init_133 ca, k_X8_init_134 ca, k_X8_init_137 ca, k_X8_init_138 ca, k_X8_init_141 ca, k_X8_init_142 ca, k_X8_init_145 ca, k_X8_init_146 ca, k_X8_init_147 ca, k_X8_init_150 ca, k_X8_init_151 ca, k_X8_init_152 ca, k_X8_init_155 ca, k_X8_init_156 ca, k_X8_init_159 ca, k_X8_init_160 ca, k_X8_init_161 ca, k_X8_init_164 ca, k_X8_init_165 ca, k_X8_init_166 ca, k_X8_init_169 ca, k_X8_init_170 ca, k_X8_init_173 ca, k_X8_init_174 ca, k_X8_init_175 ca, k_X8_init_178 ca, k_X8_init_179 ca, k_X8_init_180 ca, k_X8_init_183 ca, k_X8_init_184 ca, k_X8_init_187 ca, k_X8_init_188 ca, k_X8_init_189 ca, k_X8_init_191 ca, k_X8_init_192 ca, k_X8_init_195 ca, k_X8_init_198 ca, a9, d10]
  try clear hF hF0 F
  generalize eH10 : va_up (va_up H9 q10 (some (.inl (ca 0, 9, .inl (fun _ => 0))))) a (some (.inr (8, [.ref q1, .ref q2, .ref q3, .int 0, .ref q4, .int 0, .ref q5, .ref q6, .ref q7, .ref q8, .ref q9, .ref q10, .int 0, .int 0, .int 0]))) = H10 at *
  have a10 : H10 a = some (.inr (8, [.ref q1, .ref q2, .ref q3, .int 0, .ref q4, .int 0, .ref q5, .ref q6, .ref q7, .ref q8, .ref q9, .ref q10, .int 0, .int 0, .int 0])) := by rw [← eH10]; exact va_up_self _ _ _
  have b10_q1 : H10 q1 = some (.inl (ca 0, 127, .inl (fun _ => 0))) := by rw [← eH10]; exact (va_up_ne _ _ (fun z => d1 z.symm)).trans ((va_up_ne _ _ d1_10).trans b9_q1)
  have b10_q2 : H10 q2 = some (.inl (ca 0, 127, .inl (fun _ => 0))) := by rw [← eH10]; exact (va_up_ne _ _ (fun z => d2 z.symm)).trans ((va_up_ne _ _ d2_10).trans b9_q2)
  have b10_q3 : H10 q3 = some (.inl (ca 0, 508, .inl (fun _ => 0))) := by rw [← eH10]; exact (va_up_ne _ _ (fun z => d3 z.symm)).trans ((va_up_ne _ _ d3_10).trans b9_q3)
  have b10_q4 : H10 q4 = some (.inl (ca 0, 60, .inl (fun _ => 0))) := by rw [← eH10]; exact (va_up_ne _ _ (fun z => d4 z.symm)).trans ((va_up_ne _ _ d4_10).trans b9_q4)
  have b10_q5 : H10 q5 = some (.inl (ca 0, 3, .inl (fun _ => 0))) := by rw [← eH10]; exact (va_up_ne _ _ (fun z => d5 z.symm)).trans ((va_up_ne _ _ d5_10).trans b9_q5)
  have b10_q6 : H10 q6 = some (.inl (ca 1, 1501, .inr (.inl (fun _ => 0)))) := by rw [← eH10]; exact (va_up_ne _ _ (fun z => d6 z.symm)).trans ((va_up_ne _ _ d6_10).trans b9_q6)
  have b10_q7 : H10 q7 = some (.inl (ca 0, 1501, .inl (fun _ => 0))) := by rw [← eH10]; exact (va_up_ne _ _ (fun z => d7 z.symm)).trans ((va_up_ne _ _ d7_10).trans b9_q7)
  have b10_q8 : H10 q8 = some (.inl (ca 2, 61, .inl (fun _ => 0))) := by rw [← eH10]; exact (va_up_ne _ _ (fun z => d8 z.symm)).trans ((va_up_ne _ _ d8_10).trans b9_q8)
  have b10_q9 : H10 q9 = some (.inl (ca 2, 18377, .inl (fun _ => 0))) := by rw [← eH10]; exact (va_up_ne _ _ (fun z => d9 z.symm)).trans ((va_up_ne _ _ d9_10).trans b9_q9)
  have b10_q10 : H10 q10 = some (.inl (ca 0, 9, .inl (fun _ => 0))) := by rw [← eH10]; exact (va_up_ne _ _ (fun z => d10 z.symm)).trans (va_up_self _ _ _)
  clear eH10 B10
  have fin : ∀ f, (∀ j, j < 127 → f j = s0R j) → K 10 22274 132 [some (.ref a), some (.int 3)] [] (va_up H10 q1 (some (.inl (ca 0, 127, .inl f)))) := by
    intro f hf
    have k0 := hs _ (Qa (Qa (Qa (Qa (Qa (Qa (Qa (Qa (Qa (Qa (fun _ => a) 1 (fun _ => q1)) 2 (fun _ => q2)) 3 (fun _ => q3)) 4 (fun _ => q4)) 5 (fun _ => q5)) 6 (fun _ => q6)) 7 (fun _ => q7)) 8 (fun _ => q8)) 9 (fun _ => q9)) 10 (fun _ => q10)) f rfl (U10.up (i := 1) (by decide) _) ((va_up_ne _ _ d1).trans a10) (va_up_self _ _ _) hf ((va_up_ne _ _ (fun z => d1_2 z.symm)).trans b10_q2) ((va_up_ne _ _ (fun z => d1_3 z.symm)).trans b10_q3) ((va_up_ne _ _ (fun z => d1_4 z.symm)).trans b10_q4) ((va_up_ne _ _ (fun z => d1_5 z.symm)).trans b10_q5) ((va_up_ne _ _ (fun z => d1_6 z.symm)).trans b10_q6) ((va_up_ne _ _ (fun z => d1_7 z.symm)).trans b10_q7) ((va_up_ne _ _ (fun z => d1_8 z.symm)).trans b10_q8) ((va_up_ne _ _ (fun z => d1_9 z.symm)).trans b10_q9) ((va_up_ne _ _ (fun z => d1_10 z.symm)).trans b10_q10)
    refine goN go (stp []) 160 _ _ _ _ _ _ (fun F hF hF0 => ?_)
    simp only [hF, hF0, ite_not, i_push, i_iload, i_lload, i_aload, i_istore, i_astore, i_lstore, i_iinc, i_bin, i_dv, i_un, i_lbin, i_lsh, i_i2l, i_l2i, i_lcmp, i_dup, i_dup2, i_pop, i_if, i_icmp, i_goto, swG, i_sw, i_getf, i_puti, i_putz, i_putr, i_ald, i_lald, i_aald, i_ast, i_last, i_aast, i_alen, i_new, i_newi, i_newl, i_newq, i_oinit, i_ret, i_zret, i_lret, i_vret, catS, tk, rpush, isO, i_m1, i_m2, i_acopy, i_callV, i_callS, KRet, lget, lput, lputL, lcl0, isL, lv0, List.map_cons, List.map_nil, List.length_cons, List.length_nil, List.cons_append, List.nil_append, Nat.reduceAdd, Nat.reduceSub, Nat.reduceLeDiff, List.replicate_succ, List.replicate_zero, List.getElem?_cons_succ, List.getElem?_cons_zero, List.set_cons_succ, List.set_cons_zero, true_and, and_true, if_true, if_false, ↓reduceIte, Nat.le_refl, Value.category, va_up_app, eq_self, stp, Nat.reduceBEq, Bool.or_false, Bool.false_or, Bool.true_or, Bool.or_true, or_true, true_or, bx_uu, implies_true, true_implies, not_true, not_false_eq_true, false_implies, and_self, Nat.reduceLT, Int32.reduceAdd, Int32.reduceSub, Int32.reduceMul, Int32.reduceLE, Int32.reduceLT, Int32.reduceToNatClampNeg, va_rf_some, Bool.false_eq_true, k_X8_init_0 ca, k_X8_init_1 ca, k_X8_init_4 ca, k_X8_init_5 ca, k_X8_init_7 ca, k_X8_init_9 ca, k_X8_init_12 ca, k_X8_init_13 ca, k_X8_init_15 ca, k_X8_init_17 ca, k_X8_init_20 ca, k_X8_init_21 ca, k_X8_init_24 ca, k_X8_init_26 ca, k_X8_init_29 ca, k_X8_init_30 ca, k_X8_init_32 ca, k_X8_init_34 ca, k_X8_init_37 ca, k_X8_init_38 ca, k_X8_init_39 ca, k_X8_init_41 ca, k_X8_init_44 ca, k_X8_init_45 ca, k_X8_init_48 ca, k_X8_init_50 ca, k_X8_init_53 ca, k_X8_init_54 ca, k_X8_init_57 ca, k_X8_init_59 ca, k_X8_init_62 ca, k_X8_init_63 ca, k_X8_init_65 ca, k_X8_init_67 ca, k_X8_init_70 ca, k_X8_init_71 ca, k_X8_init_74 ca, k_X8_init_76 ca, k_X8_init_79 ca, k_X8_init_80 ca, k_X8_init_82 ca, k_X8_init_84 ca, k_X8_init_87 ca, k_X8_init_88 ca, k_X8_init_89 ca, k_X8_init_90 ca, k_X8_init_92 ca, k_X8_init_95 ca, k_X8_init_96 ca, k_X8_init_99 ca, k_X8_init_100 ca, k_X8_init_101 ca, k_X8_init_102 ca, k_X8_init_103 ca, k_X8_init_104 ca, k_X8_init_105 ca, k_X8_init_106 ca, k_X8_init_109 ca, k_X8_init_112 ca, k_X8_init_113 ca, k_X8_init_116 ca, k_X8_init_118 ca, k_X8_init_120 ca, k_X8_init_121 ca, k_X8_init_122 ca, k_X8_init_125 ca, k_X8_init_127 ca, k_X8_init_129 ca, k_X8_init_130 ca, k_X8_init_131 ca, k_X8_init_132 ca, k_X8_init_133 ca, k_X8_init_134 ca, k_X8_init_137 ca, k_X8_init_138 ca, k_X8_init_141 ca, k_X8_init_142 ca, k_X8_init_145 ca, k_X8_init_146 ca, k_X8_init_147 ca, k_X8_init_150 ca, k_X8_init_151 ca, k_X8_init_152 ca, k_X8_init_155 ca, k_X8_init_156 ca, k_X8_init_159 ca, k_X8_init_160 ca, k_X8_init_161 ca, k_X8_init_164 ca, k_X8_init_165 ca, k_X8_init_166 ca, k_X8_init_169 ca, k_X8_init_170 ca, k_X8_init_173 ca, k_X8_init_174 ca, k_X8_init_175 ca, k_X8_init_178 ca, k_X8_init_179 ca, k_X8_init_180 ca, k_X8_init_183 ca, k_X8_init_184 ca, k_X8_init_187 ca, k_X8_init_188 ca, k_X8_init_189 ca, k_X8_init_191 ca, k_X8_init_192 ca, k_X8_init_195 ca, k_X8_init_198 ca]
    try clear hF hF0 F
    exact k0
  have w11 : vp_in 11 127 := vpl (by decide)
  have w12 : vp_in 12 127 := vpl (by decide)
  have w106 : vp_in 106 127 := vpl (by decide)
  have w108 : vp_in 108 127 := vpl (by decide)
  have w43 : vp_in 43 127 := vpl (by decide)
  have w44 : vp_in 44 127 := vpl (by decide)
  have w113 : vp_in 113 127 := vpl (by decide)
  have w115 : vp_in 115 127 := vpl (by decide)
  have w75 : vp_in 75 127 := vpl (by decide)
  have w76 : vp_in 76 127 := vpl (by decide)
  have w120 : vp_in 120 127 := vpl (by decide)
  have w122 : vp_in 122 127 := vpl (by decide)
  have w7 : vp_in 7 127 := vpl (by decide)
  have w8 : vp_in 8 127 := vpl (by decide)
  have it0 : ∀ f, K 10 22274 132 [some (.ref a), some (.int 1)] [] (va_up H10 q1 (some (.inl (ca 0, 127, .inl (upd (upd (upd (upd f 11 1000) 12 3000) 106 200) 108 20))))) → K 10 22274 132 [some (.ref a), some (.int 0)] [] (va_up H10 q1 (some (.inl (ca 0, 127, .inl f)))) := by
    intro f k0
    refine goN go (stp [132]) 160 _ _ _ _ _ _ (fun F hF hF0 => ?_)
    simp only [hF, hF0, ite_not, i_push, i_iload, i_lload, i_aload, i_istore, i_astore, i_lstore, i_iinc, i_bin, i_dv, i_un, i_lbin, i_lsh, i_i2l, i_l2i, i_lcmp, i_dup, i_dup2, i_pop, i_if, i_icmp, i_goto, swG, i_sw, i_getf, i_puti, i_putz, i_putr, i_ald, i_lald, i_aald, i_ast, i_last, i_aast, i_alen, i_new, i_newi, i_newl, i_newq, i_oinit, i_ret, i_zret, i_lret, i_vret, catS, tk, rpush, isO, i_m1, i_m2, i_acopy, i_callV, i_callS, KRet, lget, lput, lputL, lcl0, isL, lv0, List.map_cons, List.map_nil, List.length_cons, List.length_nil, List.cons_append, List.nil_append, Nat.reduceAdd, Nat.reduceSub, Nat.reduceLeDiff, List.replicate_succ, List.replicate_zero, List.getElem?_cons_succ, List.getElem?_cons_zero, List.set_cons_succ, List.set_cons_zero, true_and, and_true, if_true, if_false, ↓reduceIte, Nat.le_refl, Value.category, va_up_app, eq_self, stp, Nat.reduceBEq, Bool.or_false, Bool.false_or, Bool.true_or, Bool.or_true, or_true, true_or, bx_uu, implies_true, true_implies, not_true, not_false_eq_true, false_implies, and_self, Nat.reduceLT, Int32.reduceAdd, Int32.reduceSub, Int32.reduceMul, Int32.reduceLE, Int32.reduceLT, Int32.reduceToNatClampNeg, va_rf_some, Bool.false_eq_true, k_X8_init_0 ca, k_X8_init_1 ca, k_X8_init_4 ca, k_X8_init_5 ca, k_X8_init_7 ca, k_X8_init_9 ca, k_X8_init_12 ca, k_X8_init_13 ca, k_X8_init_15 ca, k_X8_init_17 ca, k_X8_init_20 ca, k_X8_init_21 ca, k_X8_init_24 ca, k_X8_init_26 ca, k_X8_init_29 ca, k_X8_init_30 ca, k_X8_init_32 ca, k_X8_init_34 ca, k_X8_init_37 ca, k_X8_init_38 ca, k_X8_init_39 ca, k_X8_init_41 ca, k_X8_init_44 ca, k_X8_init_45 ca, k_X8_init_48 ca, k_X8_init_50 ca, k_X8_init_53 ca, k_X8_init_54 ca, k_X8_init_57 ca, k_X8_init_59 ca, k_X8_init_62 ca, k_X8_init_63 ca, k_X8_init_65 ca, k_X8_init_67 ca, k_X8_init_70 ca, k_X8_init_71 ca, k_X8_init_74 ca, k_X8_init_76 ca, k_X8_init_79 ca, k_X8_init_80 ca, k_X8_init_82 ca, k_X8_init_84 ca, k_X8_init_87 ca, k_X8_init_88 ca, k_X8_init_89 ca, k_X8_init_90 ca, k_X8_init_92 ca, k_X8_init_95 ca, k_X8_init_96 ca, k_X8_init_99 ca, k_X8_init_100 ca, k_X8_init_101 ca, k_X8_init_102 ca, k_X8_init_103 ca, k_X8_init_104 ca, k_X8_init_105 ca, k_X8_init_106 ca, k_X8_init_109 ca, k_X8_init_112 ca, k_X8_init_113 ca, k_X8_init_116 ca, k_X8_init_118 ca, k_X8_init_120 ca, k_X8_init_121 ca, k_X8_init_122 ca, k_X8_init_125 ca, k_X8_init_127 ca, k_X8_init_129 ca, k_X8_init_130 ca, k_X8_init_131 ca, k_X8_init_132 ca, k_X8_init_133 ca, k_X8_init_134 ca, k_X8_init_137 ca, k_X8_init_138 ca, k_X8_init_141 ca, k_X8_init_142 ca, k_X8_init_145 ca, k_X8_init_146 ca, k_X8_init_147 ca, k_X8_init_150 ca, k_X8_init_151 ca, k_X8_init_152 ca, k_X8_init_155 ca, k_X8_init_156 ca, k_X8_init_159 ca, k_X8_init_160 ca, k_X8_init_161 ca, k_X8_init_164 ca, k_X8_init_165 ca, k_X8_init_166 ca, k_X8_init_169 ca, k_X8_init_170 ca, k_X8_init_173 ca, k_X8_init_174 ca, k_X8_init_175 ca, k_X8_init_178 ca, k_X8_init_179 ca, k_X8_init_180 ca, k_X8_init_183 ca, k_X8_init_184 ca, k_X8_init_187 ca, k_X8_init_188 ca, k_X8_init_189 ca, k_X8_init_191 ca, k_X8_init_192 ca, k_X8_init_195 ca, k_X8_init_198 ca, a10, d1, sp_X8_stripAt, sp_X8_roomAt, w11, w12, w106, w108]
    try clear hF hF0 F
    exact k0
  have it1 : ∀ f, K 10 22274 132 [some (.ref a), some (.int 2)] [] (va_up H10 q1 (some (.inl (ca 0, 127, .inl (upd (upd (upd (upd f 43 1000) 44 3000) 113 200) 115 20))))) → K 10 22274 132 [some (.ref a), some (.int 1)] [] (va_up H10 q1 (some (.inl (ca 0, 127, .inl f)))) := by
    intro f k0
    refine goN go (stp [132]) 160 _ _ _ _ _ _ (fun F hF hF0 => ?_)
    simp only [hF, hF0, ite_not, i_push, i_iload, i_lload, i_aload, i_istore, i_astore, i_lstore, i_iinc, i_bin, i_dv, i_un, i_lbin, i_lsh, i_i2l, i_l2i, i_lcmp, i_dup, i_dup2, i_pop, i_if, i_icmp, i_goto, swG, i_sw, i_getf, i_puti, i_putz, i_putr, i_ald, i_lald, i_aald, i_ast, i_last, i_aast, i_alen, i_new, i_newi, i_newl, i_newq, i_oinit, i_ret, i_zret, i_lret, i_vret, catS, tk, rpush, isO, i_m1, i_m2, i_acopy, i_callV, i_callS, KRet, lget, lput, lputL, lcl0, isL, lv0, List.map_cons, List.map_nil, List.length_cons, List.length_nil, List.cons_append, List.nil_append, Nat.reduceAdd, Nat.reduceSub, Nat.reduceLeDiff, List.replicate_succ, List.replicate_zero, List.getElem?_cons_succ, List.getElem?_cons_zero, List.set_cons_succ, List.set_cons_zero, true_and, and_true, if_true, if_false, ↓reduceIte, Nat.le_refl, Value.category, va_up_app, eq_self, stp, Nat.reduceBEq, Bool.or_false, Bool.false_or, Bool.true_or, Bool.or_true, or_true, true_or, bx_uu, implies_true, true_implies, not_true, not_false_eq_true, false_implies, and_self, Nat.reduceLT, Int32.reduceAdd, Int32.reduceSub, Int32.reduceMul, Int32.reduceLE, Int32.reduceLT, Int32.reduceToNatClampNeg, va_rf_some, Bool.false_eq_true, k_X8_init_0 ca, k_X8_init_1 ca, k_X8_init_4 ca, k_X8_init_5 ca, k_X8_init_7 ca, k_X8_init_9 ca, k_X8_init_12 ca, k_X8_init_13 ca, k_X8_init_15 ca, k_X8_init_17 ca, k_X8_init_20 ca, k_X8_init_21 ca, k_X8_init_24 ca, k_X8_init_26 ca, k_X8_init_29 ca, k_X8_init_30 ca, k_X8_init_32 ca, k_X8_init_34 ca, k_X8_init_37 ca, k_X8_init_38 ca, k_X8_init_39 ca, k_X8_init_41 ca, k_X8_init_44 ca, k_X8_init_45 ca, k_X8_init_48 ca, k_X8_init_50 ca, k_X8_init_53 ca, k_X8_init_54 ca, k_X8_init_57 ca, k_X8_init_59 ca, k_X8_init_62 ca, k_X8_init_63 ca, k_X8_init_65 ca, k_X8_init_67 ca, k_X8_init_70 ca, k_X8_init_71 ca, k_X8_init_74 ca, k_X8_init_76 ca, k_X8_init_79 ca, k_X8_init_80 ca, k_X8_init_82 ca, k_X8_init_84 ca, k_X8_init_87 ca, k_X8_init_88 ca, k_X8_init_89 ca, k_X8_init_90 ca, k_X8_init_92 ca, k_X8_init_95 ca, k_X8_init_96 ca, k_X8_init_99 ca, k_X8_init_100 ca, k_X8_init_101 ca, k_X8_init_102 ca, k_X8_init_103 ca, k_X8_init_104 ca, k_X8_init_105 ca, k_X8_init_106 ca, k_X8_init_109 ca, k_X8_init_112 ca, k_X8_init_113 ca, k_X8_init_116 ca, k_X8_init_118 ca, k_X8_init_120 ca, k_X8_init_121 ca, k_X8_init_122 ca, k_X8_init_125 ca, k_X8_init_127 ca, k_X8_init_129 ca, k_X8_init_130 ca, k_X8_init_131 ca, k_X8_init_132 ca, k_X8_init_133 ca, k_X8_init_134 ca, k_X8_init_137 ca, k_X8_init_138 ca, k_X8_init_141 ca, k_X8_init_142 ca, k_X8_init_145 ca, k_X8_init_146 ca, k_X8_init_147 ca, k_X8_init_150 ca, k_X8_init_151 ca, k_X8_init_152 ca, k_X8_init_155 ca, k_X8_init_156 ca, k_X8_init_159 ca, k_X8_init_160 ca, k_X8_init_161 ca, k_X8_init_164 ca, k_X8_init_165 ca, k_X8_init_166 ca, k_X8_init_169 ca, k_X8_init_170 ca, k_X8_init_173 ca, k_X8_init_174 ca, k_X8_init_175 ca, k_X8_init_178 ca, k_X8_init_179 ca, k_X8_init_180 ca, k_X8_init_183 ca, k_X8_init_184 ca, k_X8_init_187 ca, k_X8_init_188 ca, k_X8_init_189 ca, k_X8_init_191 ca, k_X8_init_192 ca, k_X8_init_195 ca, k_X8_init_198 ca, a10, d1, sp_X8_stripAt, sp_X8_roomAt, w43, w44, w113, w115]
    try clear hF hF0 F
    exact k0
  have it2 : ∀ f, K 10 22274 132 [some (.ref a), some (.int 3)] [] (va_up H10 q1 (some (.inl (ca 0, 127, .inl (upd (upd (upd (upd f 75 1000) 76 3000) 120 200) 122 20))))) → K 10 22274 132 [some (.ref a), some (.int 2)] [] (va_up H10 q1 (some (.inl (ca 0, 127, .inl f)))) := by
    intro f k0
    refine goN go (stp [132]) 160 _ _ _ _ _ _ (fun F hF hF0 => ?_)
    simp only [hF, hF0, ite_not, i_push, i_iload, i_lload, i_aload, i_istore, i_astore, i_lstore, i_iinc, i_bin, i_dv, i_un, i_lbin, i_lsh, i_i2l, i_l2i, i_lcmp, i_dup, i_dup2, i_pop, i_if, i_icmp, i_goto, swG, i_sw, i_getf, i_puti, i_putz, i_putr, i_ald, i_lald, i_aald, i_ast, i_last, i_aast, i_alen, i_new, i_newi, i_newl, i_newq, i_oinit, i_ret, i_zret, i_lret, i_vret, catS, tk, rpush, isO, i_m1, i_m2, i_acopy, i_callV, i_callS, KRet, lget, lput, lputL, lcl0, isL, lv0, List.map_cons, List.map_nil, List.length_cons, List.length_nil, List.cons_append, List.nil_append, Nat.reduceAdd, Nat.reduceSub, Nat.reduceLeDiff, List.replicate_succ, List.replicate_zero, List.getElem?_cons_succ, List.getElem?_cons_zero, List.set_cons_succ, List.set_cons_zero, true_and, and_true, if_true, if_false, ↓reduceIte, Nat.le_refl, Value.category, va_up_app, eq_self, stp, Nat.reduceBEq, Bool.or_false, Bool.false_or, Bool.true_or, Bool.or_true, or_true, true_or, bx_uu, implies_true, true_implies, not_true, not_false_eq_true, false_implies, and_self, Nat.reduceLT, Int32.reduceAdd, Int32.reduceSub, Int32.reduceMul, Int32.reduceLE, Int32.reduceLT, Int32.reduceToNatClampNeg, va_rf_some, Bool.false_eq_true, k_X8_init_0 ca, k_X8_init_1 ca, k_X8_init_4 ca, k_X8_init_5 ca, k_X8_init_7 ca, k_X8_init_9 ca, k_X8_init_12 ca, k_X8_init_13 ca, k_X8_init_15 ca, k_X8_init_17 ca, k_X8_init_20 ca, k_X8_init_21 ca, k_X8_init_24 ca, k_X8_init_26 ca, k_X8_init_29 ca, k_X8_init_30 ca, k_X8_init_32 ca, k_X8_init_34 ca, k_X8_init_37 ca, k_X8_init_38 ca, k_X8_init_39 ca, k_X8_init_41 ca, k_X8_init_44 ca, k_X8_init_45 ca, k_X8_init_48 ca, k_X8_init_50 ca, k_X8_init_53 ca, k_X8_init_54 ca, k_X8_init_57 ca, k_X8_init_59 ca, k_X8_init_62 ca, k_X8_init_63 ca, k_X8_init_65 ca, k_X8_init_67 ca, k_X8_init_70 ca, k_X8_init_71 ca, k_X8_init_74 ca, k_X8_init_76 ca, k_X8_init_79 ca, k_X8_init_80 ca, k_X8_init_82 ca, k_X8_init_84 ca, k_X8_init_87 ca, k_X8_init_88 ca, k_X8_init_89 ca, k_X8_init_90 ca, k_X8_init_92 ca, k_X8_init_95 ca, k_X8_init_96 ca, k_X8_init_99 ca, k_X8_init_100 ca, k_X8_init_101 ca, k_X8_init_102 ca, k_X8_init_103 ca, k_X8_init_104 ca, k_X8_init_105 ca, k_X8_init_106 ca, k_X8_init_109 ca, k_X8_init_112 ca, k_X8_init_113 ca, k_X8_init_116 ca, k_X8_init_118 ca, k_X8_init_120 ca, k_X8_init_121 ca, k_X8_init_122 ca, k_X8_init_125 ca, k_X8_init_127 ca, k_X8_init_129 ca, k_X8_init_130 ca, k_X8_init_131 ca, k_X8_init_132 ca, k_X8_init_133 ca, k_X8_init_134 ca, k_X8_init_137 ca, k_X8_init_138 ca, k_X8_init_141 ca, k_X8_init_142 ca, k_X8_init_145 ca, k_X8_init_146 ca, k_X8_init_147 ca, k_X8_init_150 ca, k_X8_init_151 ca, k_X8_init_152 ca, k_X8_init_155 ca, k_X8_init_156 ca, k_X8_init_159 ca, k_X8_init_160 ca, k_X8_init_161 ca, k_X8_init_164 ca, k_X8_init_165 ca, k_X8_init_166 ca, k_X8_init_169 ca, k_X8_init_170 ca, k_X8_init_173 ca, k_X8_init_174 ca, k_X8_init_175 ca, k_X8_init_178 ca, k_X8_init_179 ca, k_X8_init_180 ca, k_X8_init_183 ca, k_X8_init_184 ca, k_X8_init_187 ca, k_X8_init_188 ca, k_X8_init_189 ca, k_X8_init_191 ca, k_X8_init_192 ca, k_X8_init_195 ca, k_X8_init_198 ca, a10, d1, sp_X8_stripAt, sp_X8_roomAt, w75, w76, w120, w122]
    try clear hF hF0 F
    exact k0
  have key : ∀ r i, i + r = 6 → K 10 22274 89 [some (.ref a), some (.int (nI i))] [] (va_up H10 q1 (some (.inl (ca 0, 127, .inl (flo (fun j => 5 * nI j) (fun _ => 0) i))))) := by
    intro r
    induction r with
    | zero =>
      intro i hi
      have hi : i = 6 := hi
      subst hi
      have e : nI 6 = 6 := rfl
      have k0 := it0 (upd (upd (flo (fun j => 5 * nI j) (fun _ => 0) 6) 7 50) 8 100) (it1 _ (it2 _ (fin _ (by decide +kernel))))
      refine goN go (stp [132]) 160 _ _ _ _ _ _ (fun F hF hF0 => ?_)
      simp only [hF, hF0, ite_not, i_push, i_iload, i_lload, i_aload, i_istore, i_astore, i_lstore, i_iinc, i_bin, i_dv, i_un, i_lbin, i_lsh, i_i2l, i_l2i, i_lcmp, i_dup, i_dup2, i_pop, i_if, i_icmp, i_goto, swG, i_sw, i_getf, i_puti, i_putz, i_putr, i_ald, i_lald, i_aald, i_ast, i_last, i_aast, i_alen, i_new, i_newi, i_newl, i_newq, i_oinit, i_ret, i_zret, i_lret, i_vret, catS, tk, rpush, isO, i_m1, i_m2, i_acopy, i_callV, i_callS, KRet, lget, lput, lputL, lcl0, isL, lv0, List.map_cons, List.map_nil, List.length_cons, List.length_nil, List.cons_append, List.nil_append, Nat.reduceAdd, Nat.reduceSub, Nat.reduceLeDiff, List.replicate_succ, List.replicate_zero, List.getElem?_cons_succ, List.getElem?_cons_zero, List.set_cons_succ, List.set_cons_zero, true_and, and_true, if_true, if_false, ↓reduceIte, Nat.le_refl, Value.category, va_up_app, eq_self, stp, Nat.reduceBEq, Bool.or_false, Bool.false_or, Bool.true_or, Bool.or_true, or_true, true_or, bx_uu, implies_true, true_implies, not_true, not_false_eq_true, false_implies, and_self, Nat.reduceLT, Int32.reduceAdd, Int32.reduceSub, Int32.reduceMul, Int32.reduceLE, Int32.reduceLT, Int32.reduceToNatClampNeg, va_rf_some, Bool.false_eq_true, k_X8_init_0 ca, k_X8_init_1 ca, k_X8_init_4 ca, k_X8_init_5 ca, k_X8_init_7 ca, k_X8_init_9 ca, k_X8_init_12 ca, k_X8_init_13 ca, k_X8_init_15 ca, k_X8_init_17 ca, k_X8_init_20 ca, k_X8_init_21 ca, k_X8_init_24 ca, k_X8_init_26 ca, k_X8_init_29 ca, k_X8_init_30 ca, k_X8_init_32 ca, k_X8_init_34 ca, k_X8_init_37 ca, k_X8_init_38 ca, k_X8_init_39 ca, k_X8_init_41 ca, k_X8_init_44 ca, k_X8_init_45 ca, k_X8_init_48 ca, k_X8_init_50 ca, k_X8_init_53 ca, k_X8_init_54 ca, k_X8_init_57 ca, k_X8_init_59 ca, k_X8_init_62 ca, k_X8_init_63 ca, k_X8_init_65 ca, k_X8_init_67 ca, k_X8_init_70 ca, k_X8_init_71 ca, k_X8_init_74 ca, k_X8_init_76 ca, k_X8_init_79 ca, k_X8_init_80 ca, k_X8_init_82 ca, k_X8_init_84 ca, k_X8_init_87 ca, k_X8_init_88 ca, k_X8_init_89 ca, k_X8_init_90 ca, k_X8_init_92 ca, k_X8_init_95 ca, k_X8_init_96 ca, k_X8_init_99 ca, k_X8_init_100 ca, k_X8_init_101 ca, k_X8_init_102 ca, k_X8_init_103 ca, k_X8_init_104 ca, k_X8_init_105 ca, k_X8_init_106 ca, k_X8_init_109 ca, k_X8_init_112 ca, k_X8_init_113 ca, k_X8_init_116 ca, k_X8_init_118 ca, k_X8_init_120 ca, k_X8_init_121 ca, k_X8_init_122 ca, k_X8_init_125 ca, k_X8_init_127 ca, k_X8_init_129 ca, k_X8_init_130 ca, k_X8_init_131 ca, k_X8_init_132 ca, k_X8_init_133 ca, k_X8_init_134 ca, k_X8_init_137 ca, k_X8_init_138 ca, k_X8_init_141 ca, k_X8_init_142 ca, k_X8_init_145 ca, k_X8_init_146 ca, k_X8_init_147 ca, k_X8_init_150 ca, k_X8_init_151 ca, k_X8_init_152 ca, k_X8_init_155 ca, k_X8_init_156 ca, k_X8_init_159 ca, k_X8_init_160 ca, k_X8_init_161 ca, k_X8_init_164 ca, k_X8_init_165 ca, k_X8_init_166 ca, k_X8_init_169 ca, k_X8_init_170 ca, k_X8_init_173 ca, k_X8_init_174 ca, k_X8_init_175 ca, k_X8_init_178 ca, k_X8_init_179 ca, k_X8_init_180 ca, k_X8_init_183 ca, k_X8_init_184 ca, k_X8_init_187 ca, k_X8_init_188 ca, k_X8_init_189 ca, k_X8_init_191 ca, k_X8_init_192 ca, k_X8_init_195 ca, k_X8_init_198 ca, a10, d1, e, w7, w8]
      try clear hF hF0 F
      exact k0
    | succ r ih =>
      intro i hi
      have g1 : ¬ 6 ≤ nI i := nI_ge (b := 6) (by omega) (by decide)
      have vi : vp_in (nI i) 127 := vp127 (by omega)
      have xi : (nI i).toNatClampNeg = i := tn127 (by omega)
      have ef : upd (flo (fun j => 5 * nI j) (fun _ => (0 : Int32)) i) i (5 * nI i) = flo (fun j => 5 * nI j) (fun _ => 0) (i + 1) := flo_s (f := fun j => 5 * nI j)
      have k0 := ih (i + 1) (by omega)
      refine goN go (stp [89]) 160 _ _ _ _ _ _ (fun F hF hF0 => ?_)
      simp only [hF, hF0, ite_not, i_push, i_iload, i_lload, i_aload, i_istore, i_astore, i_lstore, i_iinc, i_bin, i_dv, i_un, i_lbin, i_lsh, i_i2l, i_l2i, i_lcmp, i_dup, i_dup2, i_pop, i_if, i_icmp, i_goto, swG, i_sw, i_getf, i_puti, i_putz, i_putr, i_ald, i_lald, i_aald, i_ast, i_last, i_aast, i_alen, i_new, i_newi, i_newl, i_newq, i_oinit, i_ret, i_zret, i_lret, i_vret, catS, tk, rpush, isO, i_m1, i_m2, i_acopy, i_callV, i_callS, KRet, lget, lput, lputL, lcl0, isL, lv0, List.map_cons, List.map_nil, List.length_cons, List.length_nil, List.cons_append, List.nil_append, Nat.reduceAdd, Nat.reduceSub, Nat.reduceLeDiff, List.replicate_succ, List.replicate_zero, List.getElem?_cons_succ, List.getElem?_cons_zero, List.set_cons_succ, List.set_cons_zero, true_and, and_true, if_true, if_false, ↓reduceIte, Nat.le_refl, Value.category, va_up_app, eq_self, stp, Nat.reduceBEq, Bool.or_false, Bool.false_or, Bool.true_or, Bool.or_true, or_true, true_or, bx_uu, implies_true, true_implies, not_true, not_false_eq_true, false_implies, and_self, Nat.reduceLT, Int32.reduceAdd, Int32.reduceSub, Int32.reduceMul, Int32.reduceLE, Int32.reduceLT, Int32.reduceToNatClampNeg, va_rf_some, Bool.false_eq_true, k_X8_init_0 ca, k_X8_init_1 ca, k_X8_init_4 ca, k_X8_init_5 ca, k_X8_init_7 ca, k_X8_init_9 ca, k_X8_init_12 ca, k_X8_init_13 ca, k_X8_init_15 ca, k_X8_init_17 ca, k_X8_init_20 ca, k_X8_init_21 ca, k_X8_init_24 ca, k_X8_init_26 ca, k_X8_init_29 ca, k_X8_init_30 ca, k_X8_init_32 ca, k_X8_init_34 ca, k_X8_init_37 ca, k_X8_init_38 ca, k_X8_init_39 ca, k_X8_init_41 ca, k_X8_init_44 ca, k_X8_init_45 ca, k_X8_init_48 ca, k_X8_init_50 ca, k_X8_init_53 ca, k_X8_init_54 ca, k_X8_init_57 ca, k_X8_init_59 ca, k_X8_init_62 ca, k_X8_init_63 ca, k_X8_init_65 ca, k_X8_init_67 ca, k_X8_init_70 ca, k_X8_init_71 ca, k_X8_init_74 ca, k_X8_init_76 ca, k_X8_init_79 ca, k_X8_init_80 ca, k_X8_init_82 ca, k_X8_init_84 ca, k_X8_init_87 ca, k_X8_init_88 ca, k_X8_init_89 ca, k_X8_init_90 ca, k_X8_init_92 ca, k_X8_init_95 ca, k_X8_init_96 ca, k_X8_init_99 ca, k_X8_init_100 ca, k_X8_init_101 ca, k_X8_init_102 ca, k_X8_init_103 ca, k_X8_init_104 ca, k_X8_init_105 ca, k_X8_init_106 ca, k_X8_init_109 ca, k_X8_init_112 ca, k_X8_init_113 ca, k_X8_init_116 ca, k_X8_init_118 ca, k_X8_init_120 ca, k_X8_init_121 ca, k_X8_init_122 ca, k_X8_init_125 ca, k_X8_init_127 ca, k_X8_init_129 ca, k_X8_init_130 ca, k_X8_init_131 ca, k_X8_init_132 ca, k_X8_init_133 ca, k_X8_init_134 ca, k_X8_init_137 ca, k_X8_init_138 ca, k_X8_init_141 ca, k_X8_init_142 ca, k_X8_init_145 ca, k_X8_init_146 ca, k_X8_init_147 ca, k_X8_init_150 ca, k_X8_init_151 ca, k_X8_init_152 ca, k_X8_init_155 ca, k_X8_init_156 ca, k_X8_init_159 ca, k_X8_init_160 ca, k_X8_init_161 ca, k_X8_init_164 ca, k_X8_init_165 ca, k_X8_init_166 ca, k_X8_init_169 ca, k_X8_init_170 ca, k_X8_init_173 ca, k_X8_init_174 ca, k_X8_init_175 ca, k_X8_init_178 ca, k_X8_init_179 ca, k_X8_init_180 ca, k_X8_init_183 ca, k_X8_init_184 ca, k_X8_init_187 ca, k_X8_init_188 ca, k_X8_init_189 ca, k_X8_init_191 ca, k_X8_init_192 ca, k_X8_init_195 ca, k_X8_init_198 ca, g1, a10, d1, Int32.zero_add, vi, xi, ef, a_1]
      try clear hF hF0 F
      exact k0
  have k0 := key 6 0 (by omega)
  rw [nI_0, flo_0, up_id b10_q1] at k0
  exact k0
