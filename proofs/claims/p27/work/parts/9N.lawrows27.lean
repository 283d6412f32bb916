/-! the law: its claim's words (skeleton), its end, its table -/
def R_law : String := "SnapStacksLaw"
def lw_P (b : Addr) (xs : List Int32) (args : Array Value) (s : State) : Prop := args = #[.ref b] ∧ s.IntsAt b xs ∧ xs.length ≤ 260 ∧ (Jvm.Cond.and given_1 narrow_1).before args s = true
def lw_Q (_ : Array Value) (s : State) (o : Outcome) (t : State) : Prop := o = .returned (some (.int 1)) ∧ Framed s o t [] 600000 7302250
def lw_Z (below : List Frame) (a : Array Value) (s : State) : State → Prop := fun t => ∃ o, t.status = .running ∧ Ended t below o ∧ lw_Q a s o t
/-- the law's own end, with 1 on the stack, nothing written that was there before, its room as the claim has it -/
theorem lw_ret {p : Program} {l : Launch} {e : Env} {s : State} {m : MethodId} {below : List Frame} {meth : Method} {c : Code} {b : Nat} (hx : p.tables.exec = Jvm.exec) (hb : c.code = code) (hr : meth.sig.returnType = ret) (hlocks : meth.locks = false) {pc : Nat} {H : Heap} {ls : Array Slot} (hdg : decode code pc = .ok (.ireturn, 1)) : W p l e room_1 s m #[Value.ref b] below meth c H [] 600000 7302250 (lw_Z below #[Value.ref b] s) (F0 m pc ls [.int 1]) := by
  intro T hT X
  obtain ⟨fs, hret, hrun, hended, hW, hframe⟩ := X.leave (v := some (.int 1)) (hlocks := hlocks) (fun h => by rw [hr] at h; cases h)
  have hmeth' : T.vm.method? m = some meth := X.method'
  refine ⟨T.setFrames fs, ?_, .returned (some (.int 1)), hrun, hended, rfl, ⟨_, rfl⟩, hW, hframe⟩
  jvm_step X.here [X.here.top, hx, hb, hdg, hmeth', hr, ret, narrow_b1]
  (try refine ⟨rfl, ?_⟩); (try refine ⟨rfl, ?_⟩)
  first | (intro acts; rw [hret _ acts rfl rfl rfl]) | rw [hret _ _ rfl rfl rfl]
  exact Steps.refl _
/-- what holds at the law's entry: the machine, the code, the tables' words (any of lw_tbl by 'hts w (by decide +kernel)'), the script of L ints xs at the cell b, what the Statement gives of the start (any of its parts by flat_of_before) -/
def lw_At (p : Program) (s : State) (m : MethodId) (meth : Method) (c : Code) (b L : Nat) (xs : Nat → Int32) : Prop :=
  p.tables.exec = Jvm.exec ∧ c.code = code ∧ meth.sig.returnType = ret ∧ c.maxLocals = 11 ∧ s.vm.findClass R_law = some m.cls ∧ (∀ w ∈ lw_tbl, w.before #[Value.ref b] s = true) ∧ va_X b L xs s s.heap ∧ b < s.heap.size ∧ meth.locks = false ∧ (Jvm.Cond.and given_1 narrow_1).before #[Value.ref b] s = true
theorem snd_lawret {D : va_G} {ca : Nat → ClassId} {p : Program} {l : Launch} {e : Env} {s : State} {m : MethodId} {below : List Frame} {meth : Method} {c : Code} {own nm : String} {b pc : Nat} (X : Ax D ca (fun q => s.heap.size ≤ q) 11 own nm code ret p s m #[.ref b] meth c) (hdg : decode code pc = .ok (.ireturn, 1)) : Snd D (fun q => s.heap.size ≤ q) 11 p l e room_1 s m #[.ref b] below meth c (lw_Z below #[.ref b] s) (KRet 600000 7302250 (fun v _ => v = some (.int 1))) i_ret pc := by
  intro K hK c1 sl lv st h hj H locs L' ls a1 a2 a3 a4 a5
  unfold i_ret at hj
  split at hj
  · obtain ⟨g1, g2, hv⟩ := hj
    cases hv
    refine va_forget (fun q hq => a4.2.2 q hq) ?_
    refine W.widen (k := 600000) (n := 7302250) g1 g2 ?_
    exact lw_ret X.1 X.2.1 X.2.2.2.2.1 X.2.2.2.2.2.1 hdg
  · exact hj.elim
def k_L_law (ca : Nat → ClassId) (b L : Nat) (xs : Nat → Int32) : Nat → IT := fun pc => if pc < 69 then lk pc [(0, i_new 600000 7302250 7 6 [.null, .null, .null, .null, .null, .int 0] 3),
  (3, i_dup 4),
  (4, i_callV 7 0 145 8959 600000 7302250 (sp_X7_init ca) 7),
  (7, i_astore 1 8),
  (8, i_aload 1 9),
  (9, i_push (.int 0) 10),
  (10, i_callS 2 0 0 600000 7302250 (sp_L_holds ca) 13),
  (13, i_if (fun x => x = 0) 29 16),
  (16, i_aload 1 17),
  (17, i_callV 7 0 0 0 600000 7302250 (sp_X7_undo ca) 20),
  (20, i_push (.int (-10000002)) 22),
  (22, i_icmp (fun x y => ¬ x = y) 29 25),
  (25, i_push (.int 1) 26),
  (26, i_goto 30),
  (29, i_push (.int 0) 30),
  (30, i_istore 2 31),
  (31, i_push (.int 0) 32),
  (32, i_istore 3 33),
  (33, i_iload 3 34),
  (34, i_push (.int 28) 36),
  (36, i_icmp (fun x y => y ≤ x) 272 39),
  (39, i_iload 2 40),
  (40, i_if (fun x => x = 0) 272 43),
  (43, i_aload 0 44),
  (44, i_push (.int 2) 45),
  (45, i_iload 3 46),
  (46, i_bin (fun x y => x * y) 47),
  (47, i_lot b L xs 600000 7302250 50),
  (50, i_istore 4 52),
  (52, i_aload 0 53),
  (53, i_push (.int 2) 54),
  (54, i_iload 3 55),
  (55, i_bin (fun x y => x * y) 56),
  (56, i_push (.int 1) 57),
  (57, i_bin (fun x y => x + y) 58),
  (58, i_lot b L xs 600000 7302250 61),
  (61, i_istore 5 63),
  (63, i_aload 1 64),
  (64, i_callS 1 0 0 600000 7302250 (sp_L_digest ca) 67),
  (67, i_lstore 6 69)] else
  if pc < 143 then lk pc [(69, i_aload 1 70),
  (70, i_push (.int 3) 71),
  (71, i_callV 7 1 0 0 600000 7302250 (sp_X7_count ca) 74),
  (74, i_istore 8 76),
  (76, i_aload 1 77),
  (77, i_iload 3 78),
  (78, i_push (.int 4) 79),
  (79, i_icmp (fun x y => y ≤ x) 90 82),
  (82, i_iload 4 84),
  (84, i_push (.int (-16)) 86),
  (86, i_bin (fun x y => x &&& y) 87),
  (87, i_goto 92),
  (90, i_iload 4 92),
  (92, i_iload 5 94),
  (94, i_callS 3 0 0 600000 7302250 (sp_L_acts ca) 97),
  (97, i_if (fun x => x = 0) 120 100),
  (100, i_iload 3 101),
  (101, i_push (.int 4) 102),
  (102, i_dv (fun x y => x - x / y * y) 103),
  (103, i_push (.int 3) 104),
  (104, i_icmp (fun x y => ¬ x = y) 116 107),
  (107, i_aload 1 108),
  (108, i_iload 5 110),
  (110, i_callS 2 0 0 600000 7302250 (sp_L_holds ca) 113),
  (113, i_if (fun x => x = 0) 120 116),
  (116, i_push (.int 1) 117),
  (117, i_goto 121),
  (120, i_push (.int 0) 121),
  (121, i_istore 2 122),
  (122, i_aload 1 123),
  (123, i_push (.int 3) 124),
  (124, i_callV 7 1 0 0 600000 7302250 (sp_X7_count ca) 127),
  (127, i_istore 9 129),
  (129, i_iload 2 130),
  (130, i_if (fun x => x = 0) 169 133),
  (133, i_iload 9 135),
  (135, i_iload 8 137),
  (137, i_icmp (fun x y => ¬ x = y) 156 140),
  (140, i_iload 8 142),
  (142, i_push (.int 4) 143)] else
  if pc < 220 then lk pc [(143, i_icmp (fun x y => x = y) 165 146),
  (146, i_aload 1 147),
  (147, i_callS 1 0 0 600000 7302250 (sp_L_digest ca) 150),
  (150, i_lload 6 152),
  (152, i_lcmp 153),
  (153, i_if (fun x => x = 0) 165 156),
  (156, i_iload 9 158),
  (158, i_iload 8 160),
  (160, i_push (.int 1) 161),
  (161, i_bin (fun x y => x + y) 162),
  (162, i_icmp (fun x y => ¬ x = y) 169 165),
  (165, i_push (.int 1) 166),
  (166, i_goto 170),
  (169, i_push (.int 0) 170),
  (170, i_istore 2 171),
  (171, i_iload 2 172),
  (172, i_if (fun x => x = 0) 221 175),
  (175, i_iload 9 177),
  (177, i_iload 8 179),
  (179, i_push (.int 1) 180),
  (180, i_bin (fun x y => x + y) 181),
  (181, i_icmp (fun x y => ¬ x = y) 221 184),
  (184, i_iload 5 186),
  (186, i_push (.int 8) 188),
  (188, i_bin (fun x y => x >>> (y &&& 31)) 189),
  (189, i_push (.int 2) 190),
  (190, i_callS 2 0 0 600000 7302250 (sp_L_low ca) 193),
  (193, i_if (fun x => ¬ x = 0) 221 196),
  (196, i_aload 1 197),
  (197, i_callV 7 0 0 0 600000 7302250 (sp_X7_undo ca) 200),
  (200, i_iload 8 202),
  (202, i_icmp (fun x y => ¬ x = y) 219 205),
  (205, i_aload 1 206),
  (206, i_callS 1 0 0 600000 7302250 (sp_L_digest ca) 209),
  (209, i_lload 6 211),
  (211, i_lcmp 212),
  (212, i_if (fun x => ¬ x = 0) 219 215),
  (215, i_push (.int 1) 216),
  (216, i_goto 220),
  (219, i_push (.int 0) 220)] else
  lk pc [(220, i_istore 2 221),
  (221, i_iload 2 222),
  (222, i_if (fun x => x = 0) 266 225),
  (225, i_iload 3 226),
  (226, i_push (.int 5) 227),
  (227, i_dv (fun x y => x - x / y * y) 228),
  (228, i_push (.int 4) 229),
  (229, i_icmp (fun x y => ¬ x = y) 266 232),
  (232, i_aload 1 233),
  (233, i_push (.int 3) 234),
  (234, i_callV 7 1 0 0 600000 7302250 (sp_X7_count ca) 237),
  (237, i_istore 10 239),
  (239, i_aload 1 240),
  (240, i_callV 7 0 0 0 600000 7302250 (sp_X7_undo ca) 243),
  (243, i_iload 10 245),
  (245, i_if (fun x => ¬ x = 0) 253 248),
  (248, i_push (.int (-10000002)) 250),
  (250, i_goto 257),
  (253, i_iload 10 255),
  (255, i_push (.int 1) 256),
  (256, i_bin (fun x y => x - y) 257),
  (257, i_icmp (fun x y => ¬ x = y) 264 260),
  (260, i_push (.int 1) 261),
  (261, i_goto 265),
  (264, i_push (.int 0) 265),
  (265, i_istore 2 266),
  (266, i_iinc 3 1 269),
  (269, i_goto 33),
  (272, i_iload 2 273),
  (273, i_ret)]
set_option maxHeartbeats 4000000 in
set_option maxRecDepth 20000 in
theorem t_L_law {D : va_G} {ca : Nat → ClassId} {p : Program} {l : Launch} {e : Env} {s : State} {m : MethodId} {below : List Frame} {meth : Method} {c : Code} {nm : String} {b L : Nat} {xs : Nat → Int32} (hL : L < 2 ^ 31) (X : Ax D ca (fun q => s.heap.size ≤ q) 11 "SnapStacksLaw" nm code ret p s m #[.ref b] meth c) (hX : va_X b L xs s s.heap) (hbl : b < s.heap.size) : ∀ pc, Snd D (fun q => s.heap.size ≤ q) 11 p l e room_1 s m #[.ref b] below meth c (lw_Z below #[.ref b] s) (KRet 600000 7302250 (fun v _ => v = some (.int 1))) (k_L_law ca b L xs pc) pc := by
  have hbA : ¬ (fun q : Nat => s.heap.size ≤ q) b := Nat.not_le.mpr hbl
  unfold k_L_law
  refine snd_split (69) ?_ ?_
  · refine snd_cons (snd_new X Fk7 rfl rfl w_12 w_13 w_1 (by decide) dL_law_0) ?_
    refine snd_cons (snd_dup X dL_law_3) ?_
    refine snd_cons (snd_callI X (ci := 7) (ok_X7_init l D ca) rfl rfl w_14 w_15 w_1 w_16 rfl (by decide) (by decide) dL_law_4) ?_
    refine snd_cons (snd_astore_n X dL_law_7 rfl (by decide)) ?_
    refine snd_cons (snd_aload_n X dL_law_8 rfl) ?_
    refine snd_cons (snd_iconst X dL_law_9 (by decide)) ?_
    refine snd_cons (snd_callS X (ok_L_holds l D ca) rfl rfl w_367 w_368 w_0 w_369 (by decide) (by decide) dL_law_10) ?_
    refine snd_cons (snd_if_eq X dL_law_13 (by decide)) ?_
    refine snd_cons (snd_aload_n X dL_law_16 rfl) ?_
    refine snd_cons (snd_callV X Fk7 (ok_X7_undo l D ca) rfl rfl w_285 w_286 w_287 w_1 w_288 (by decide) (by decide) dL_law_17) ?_
    refine snd_cons (snd_ldc X w_492 dL_law_20) ?_
    refine snd_cons (snd_icmp_ne X dL_law_22 (by decide)) ?_
    refine snd_cons (snd_iconst X dL_law_25 (by decide)) ?_
    refine snd_cons (snd_goto X dL_law_26 (by decide)) ?_
    refine snd_cons (snd_iconst X dL_law_29 (by decide)) ?_
    refine snd_cons (snd_istore_n X dL_law_30 rfl (by decide)) ?_
    refine snd_cons (snd_iconst X dL_law_31 (by decide)) ?_
    refine snd_cons (snd_istore_n X dL_law_32 rfl (by decide)) ?_
    refine snd_cons (snd_iload_n X dL_law_33 rfl) ?_
    refine snd_cons (snd_bipush X dL_law_34 (by decide)) ?_
    refine snd_cons (snd_icmp_ge X dL_law_36 (by decide)) ?_
    refine snd_cons (snd_iload_n X dL_law_39 rfl) ?_
    refine snd_cons (snd_if_eq X dL_law_40 (by decide)) ?_
    refine snd_cons (snd_aload_n X dL_law_43 rfl) ?_
    refine snd_cons (snd_iconst X dL_law_44 (by decide)) ?_
    refine snd_cons (snd_iload_n X dL_law_45 rfl) ?_
    refine snd_cons (snd_imul X dL_law_46) ?_
    refine snd_cons (snd_lot X hX hbl hbA hL rfl rfl w_310 w_311 w_0 w_312 (by decide) (by decide) dL_law_47) ?_
    refine snd_cons (snd_istore X dL_law_50 (by decide)) ?_
    refine snd_cons (snd_aload_n X dL_law_52 rfl) ?_
    refine snd_cons (snd_iconst X dL_law_53 (by decide)) ?_
    refine snd_cons (snd_iload_n X dL_law_54 rfl) ?_
    refine snd_cons (snd_imul X dL_law_55) ?_
    refine snd_cons (snd_iconst X dL_law_56 (by decide)) ?_
    refine snd_cons (snd_iadd X dL_law_57) ?_
    refine snd_cons (snd_lot X hX hbl hbA hL rfl rfl w_310 w_311 w_0 w_312 (by decide) (by decide) dL_law_58) ?_
    refine snd_cons (snd_istore X dL_law_61 (by decide)) ?_
    refine snd_cons (snd_aload_n X dL_law_63 rfl) ?_
    refine snd_cons (snd_callS X (ok_L_digest l D ca) rfl rfl w_318 w_319 w_0 w_320 (by decide) (by decide) dL_law_64) ?_
    refine snd_cons (snd_lstore X dL_law_67 (by decide)) ?_
    exact snd_nil
  refine snd_split (143) ?_ ?_
  · refine snd_cons (snd_aload_n X dL_law_69 rfl) ?_
    refine snd_cons (snd_iconst X dL_law_70 (by decide)) ?_
    refine snd_cons (snd_callV X Fk7 (ok_X7_count l D ca) rfl rfl w_269 w_270 w_271 w_1 w_272 (by decide) (by decide) dL_law_71) ?_
    refine snd_cons (snd_istore X dL_law_74 (by decide)) ?_
    refine snd_cons (snd_aload_n X dL_law_76 rfl) ?_
    refine snd_cons (snd_iload_n X dL_law_77 rfl) ?_
    refine snd_cons (snd_iconst X dL_law_78 (by decide)) ?_
    refine snd_cons (snd_icmp_ge X dL_law_79 (by decide)) ?_
    refine snd_cons (snd_iload X dL_law_82) ?_
    refine snd_cons (snd_bipush X dL_law_84 (by decide)) ?_
    refine snd_cons (snd_iand X dL_law_86) ?_
    refine snd_cons (snd_goto X dL_law_87 (by decide)) ?_
    refine snd_cons (snd_iload X dL_law_90) ?_
    refine snd_cons (snd_iload X dL_law_92) ?_
    refine snd_cons (snd_callS X (ok_L_acts l D ca) rfl rfl w_466 w_467 w_0 w_468 (by decide) (by decide) dL_law_94) ?_
    refine snd_cons (snd_if_eq X dL_law_97 (by decide)) ?_
    refine snd_cons (snd_iload_n X dL_law_100 rfl) ?_
    refine snd_cons (snd_iconst X dL_law_101 (by decide)) ?_
    refine snd_cons (snd_irem X dL_law_102) ?_
    refine snd_cons (snd_iconst X dL_law_103 (by decide)) ?_
    refine snd_cons (snd_icmp_ne X dL_law_104 (by decide)) ?_
    refine snd_cons (snd_aload_n X dL_law_107 rfl) ?_
    refine snd_cons (snd_iload X dL_law_108) ?_
    refine snd_cons (snd_callS X (ok_L_holds l D ca) rfl rfl w_367 w_368 w_0 w_369 (by decide) (by decide) dL_law_110) ?_
    refine snd_cons (snd_if_eq X dL_law_113 (by decide)) ?_
    refine snd_cons (snd_iconst X dL_law_116 (by decide)) ?_
    refine snd_cons (snd_goto X dL_law_117 (by decide)) ?_
    refine snd_cons (snd_iconst X dL_law_120 (by decide)) ?_
    refine snd_cons (snd_istore_n X dL_law_121 rfl (by decide)) ?_
    refine snd_cons (snd_aload_n X dL_law_122 rfl) ?_
    refine snd_cons (snd_iconst X dL_law_123 (by decide)) ?_
    refine snd_cons (snd_callV X Fk7 (ok_X7_count l D ca) rfl rfl w_269 w_270 w_271 w_1 w_272 (by decide) (by decide) dL_law_124) ?_
    refine snd_cons (snd_istore X dL_law_127 (by decide)) ?_
    refine snd_cons (snd_iload_n X dL_law_129 rfl) ?_
    refine snd_cons (snd_if_eq X dL_law_130 (by decide)) ?_
    refine snd_cons (snd_iload X dL_law_133) ?_
    refine snd_cons (snd_iload X dL_law_135) ?_
    refine snd_cons (snd_icmp_ne X dL_law_137 (by decide)) ?_
    refine snd_cons (snd_iload X dL_law_140) ?_
    refine snd_cons (snd_iconst X dL_law_142 (by decide)) ?_
    exact snd_nil
  refine snd_split (220) ?_ ?_
  · refine snd_cons (snd_icmp_eq X dL_law_143 (by decide)) ?_
    refine snd_cons (snd_aload_n X dL_law_146 rfl) ?_
    refine snd_cons (snd_callS X (ok_L_digest l D ca) rfl rfl w_318 w_319 w_0 w_320 (by decide) (by decide) dL_law_147) ?_
    refine snd_cons (snd_lload X dL_law_150) ?_
    refine snd_cons (snd_lcmp X dL_law_152) ?_
    refine snd_cons (snd_if_eq X dL_law_153 (by decide)) ?_
    refine snd_cons (snd_iload X dL_law_156) ?_
    refine snd_cons (snd_iload X dL_law_158) ?_
    refine snd_cons (snd_iconst X dL_law_160 (by decide)) ?_
    refine snd_cons (snd_iadd X dL_law_161) ?_
    refine snd_cons (snd_icmp_ne X dL_law_162 (by decide)) ?_
    refine snd_cons (snd_iconst X dL_law_165 (by decide)) ?_
    refine snd_cons (snd_goto X dL_law_166 (by decide)) ?_
    refine snd_cons (snd_iconst X dL_law_169 (by decide)) ?_
    refine snd_cons (snd_istore_n X dL_law_170 rfl (by decide)) ?_
    refine snd_cons (snd_iload_n X dL_law_171 rfl) ?_
    refine snd_cons (snd_if_eq X dL_law_172 (by decide)) ?_
    refine snd_cons (snd_iload X dL_law_175) ?_
    refine snd_cons (snd_iload X dL_law_177) ?_
    refine snd_cons (snd_iconst X dL_law_179 (by decide)) ?_
    refine snd_cons (snd_iadd X dL_law_180) ?_
    refine snd_cons (snd_icmp_ne X dL_law_181 (by decide)) ?_
    refine snd_cons (snd_iload X dL_law_184) ?_
    refine snd_cons (snd_bipush X dL_law_186 (by decide)) ?_
    refine snd_cons (snd_ishr X dL_law_188) ?_
    refine snd_cons (snd_iconst X dL_law_189 (by decide)) ?_
    refine snd_cons (snd_callS X (ok_L_low l D ca) rfl rfl w_314 w_315 w_0 w_316 (by decide) (by decide) dL_law_190) ?_
    refine snd_cons (snd_if_ne X dL_law_193 (by decide)) ?_
    refine snd_cons (snd_aload_n X dL_law_196 rfl) ?_
    refine snd_cons (snd_callV X Fk7 (ok_X7_undo l D ca) rfl rfl w_285 w_286 w_287 w_1 w_288 (by decide) (by decide) dL_law_197) ?_
    refine snd_cons (snd_iload X dL_law_200) ?_
    refine snd_cons (snd_icmp_ne X dL_law_202 (by decide)) ?_
    refine snd_cons (snd_aload_n X dL_law_205 rfl) ?_
    refine snd_cons (snd_callS X (ok_L_digest l D ca) rfl rfl w_318 w_319 w_0 w_320 (by decide) (by decide) dL_law_206) ?_
    refine snd_cons (snd_lload X dL_law_209) ?_
    refine snd_cons (snd_lcmp X dL_law_211) ?_
    refine snd_cons (snd_if_ne X dL_law_212 (by decide)) ?_
    refine snd_cons (snd_iconst X dL_law_215 (by decide)) ?_
    refine snd_cons (snd_goto X dL_law_216 (by decide)) ?_
    refine snd_cons (snd_iconst X dL_law_219 (by decide)) ?_
    exact snd_nil
  refine snd_cons (snd_istore_n X dL_law_220 rfl (by decide)) ?_
  refine snd_cons (snd_iload_n X dL_law_221 rfl) ?_
  refine snd_cons (snd_if_eq X dL_law_222 (by decide)) ?_
  refine snd_cons (snd_iload_n X dL_law_225 rfl) ?_
  refine snd_cons (snd_iconst X dL_law_226 (by decide)) ?_
  refine snd_cons (snd_irem X dL_law_227) ?_
  refine snd_cons (snd_iconst X dL_law_228 (by decide)) ?_
  refine snd_cons (snd_icmp_ne X dL_law_229 (by decide)) ?_
  refine snd_cons (snd_aload_n X dL_law_232 rfl) ?_
  refine snd_cons (snd_iconst X dL_law_233 (by decide)) ?_
  refine snd_cons (snd_callV X Fk7 (ok_X7_count l D ca) rfl rfl w_269 w_270 w_271 w_1 w_272 (by decide) (by decide) dL_law_234) ?_
  refine snd_cons (snd_istore X dL_law_237 (by decide)) ?_
  refine snd_cons (snd_aload_n X dL_law_239 rfl) ?_
  refine snd_cons (snd_callV X Fk7 (ok_X7_undo l D ca) rfl rfl w_285 w_286 w_287 w_1 w_288 (by decide) (by decide) dL_law_240) ?_
  refine snd_cons (snd_iload X dL_law_243) ?_
  refine snd_cons (snd_if_ne X dL_law_245 (by decide)) ?_
  refine snd_cons (snd_ldc X w_492 dL_law_248) ?_
  refine snd_cons (snd_goto X dL_law_250 (by decide)) ?_
  refine snd_cons (snd_iload X dL_law_253) ?_
  refine snd_cons (snd_iconst X dL_law_255 (by decide)) ?_
  refine snd_cons (snd_isub X dL_law_256) ?_
  refine snd_cons (snd_icmp_ne X dL_law_257 (by decide)) ?_
  refine snd_cons (snd_iconst X dL_law_260 (by decide)) ?_
  refine snd_cons (snd_goto X dL_law_261 (by decide)) ?_
  refine snd_cons (snd_iconst X dL_law_264 (by decide)) ?_
  refine snd_cons (snd_istore_n X dL_law_265 rfl (by decide)) ?_
  refine snd_cons (snd_iinc X dL_law_266 (by decide) (by decide)) ?_
  refine snd_cons (snd_goto X dL_law_269 (by decide)) ?_
  refine snd_cons (snd_iload_n X dL_law_272 rfl) ?_
  refine snd_cons (snd_lawret X dL_law_273) ?_
  exact snd_nil
theorem k_L_law_0 (ca : Nat → ClassId) (b L : Nat) (xs : Nat → Int32) : k_L_law ca b L xs 0 = i_new 600000 7302250 7 6 [.null, .null, .null, .null, .null, .int 0] 3 := rfl
theorem k_L_law_3 (ca : Nat → ClassId) (b L : Nat) (xs : Nat → Int32) : k_L_law ca b L xs 3 = i_dup 4 := rfl
theorem k_L_law_4 (ca : Nat → ClassId) (b L : Nat) (xs : Nat → Int32) : k_L_law ca b L xs 4 = i_callV 7 0 145 8959 600000 7302250 (sp_X7_init ca) 7 := rfl
theorem k_L_law_7 (ca : Nat → ClassId) (b L : Nat) (xs : Nat → Int32) : k_L_law ca b L xs 7 = i_astore 1 8 := rfl
theorem k_L_law_8 (ca : Nat → ClassId) (b L : Nat) (xs : Nat → Int32) : k_L_law ca b L xs 8 = i_aload 1 9 := rfl
theorem k_L_law_9 (ca : Nat → ClassId) (b L : Nat) (xs : Nat → Int32) : k_L_law ca b L xs 9 = i_push (.int 0) 10 := rfl
theorem k_L_law_10 (ca : Nat → ClassId) (b L : Nat) (xs : Nat → Int32) : k_L_law ca b L xs 10 = i_callS 2 0 0 600000 7302250 (sp_L_holds ca) 13 := rfl
theorem k_L_law_13 (ca : Nat → ClassId) (b L : Nat) (xs : Nat → Int32) : k_L_law ca b L xs 13 = i_if (fun x => x = 0) 29 16 := rfl
theorem k_L_law_16 (ca : Nat → ClassId) (b L : Nat) (xs : Nat → Int32) : k_L_law ca b L xs 16 = i_aload 1 17 := rfl
theorem k_L_law_17 (ca : Nat → ClassId) (b L : Nat) (xs : Nat → Int32) : k_L_law ca b L xs 17 = i_callV 7 0 0 0 600000 7302250 (sp_X7_undo ca) 20 := rfl
theorem k_L_law_20 (ca : Nat → ClassId) (b L : Nat) (xs : Nat → Int32) : k_L_law ca b L xs 20 = i_push (.int (-10000002)) 22 := rfl
theorem k_L_law_22 (ca : Nat → ClassId) (b L : Nat) (xs : Nat → Int32) : k_L_law ca b L xs 22 = i_icmp (fun x y => ¬ x = y) 29 25 := rfl
theorem k_L_law_25 (ca : Nat → ClassId) (b L : Nat) (xs : Nat → Int32) : k_L_law ca b L xs 25 = i_push (.int 1) 26 := rfl
theorem k_L_law_26 (ca : Nat → ClassId) (b L : Nat) (xs : Nat → Int32) : k_L_law ca b L xs 26 = i_goto 30 := rfl
theorem k_L_law_29 (ca : Nat → ClassId) (b L : Nat) (xs : Nat → Int32) : k_L_law ca b L xs 29 = i_push (.int 0) 30 := rfl
theorem k_L_law_30 (ca : Nat → ClassId) (b L : Nat) (xs : Nat → Int32) : k_L_law ca b L xs 30 = i_istore 2 31 := rfl
theorem k_L_law_31 (ca : Nat → ClassId) (b L : Nat) (xs : Nat → Int32) : k_L_law ca b L xs 31 = i_push (.int 0) 32 := rfl
theorem k_L_law_32 (ca : Nat → ClassId) (b L : Nat) (xs : Nat → Int32) : k_L_law ca b L xs 32 = i_istore 3 33 := rfl
theorem k_L_law_33 (ca : Nat → ClassId) (b L : Nat) (xs : Nat → Int32) : k_L_law ca b L xs 33 = i_iload 3 34 := rfl
theorem k_L_law_34 (ca : Nat → ClassId) (b L : Nat) (xs : Nat → Int32) : k_L_law ca b L xs 34 = i_push (.int 28) 36 := rfl
theorem k_L_law_36 (ca : Nat → ClassId) (b L : Nat) (xs : Nat → Int32) : k_L_law ca b L xs 36 = i_icmp (fun x y => y ≤ x) 272 39 := rfl
theorem k_L_law_39 (ca : Nat → ClassId) (b L : Nat) (xs : Nat → Int32) : k_L_law ca b L xs 39 = i_iload 2 40 := rfl
theorem k_L_law_40 (ca : Nat → ClassId) (b L : Nat) (xs : Nat → Int32) : k_L_law ca b L xs 40 = i_if (fun x => x = 0) 272 43 := rfl
theorem k_L_law_43 (ca : Nat → ClassId) (b L : Nat) (xs : Nat → Int32) : k_L_law ca b L xs 43 = i_aload 0 44 := rfl
theorem k_L_law_44 (ca : Nat → ClassId) (b L : Nat) (xs : Nat → Int32) : k_L_law ca b L xs 44 = i_push (.int 2) 45 := rfl
theorem k_L_law_45 (ca : Nat → ClassId) (b L : Nat) (xs : Nat → Int32) : k_L_law ca b L xs 45 = i_iload 3 46 := rfl
theorem k_L_law_46 (ca : Nat → ClassId) (b L : Nat) (xs : Nat → Int32) : k_L_law ca b L xs 46 = i_bin (fun x y => x * y) 47 := rfl
theorem k_L_law_47 (ca : Nat → ClassId) (b L : Nat) (xs : Nat → Int32) : k_L_law ca b L xs 47 = i_lot b L xs 600000 7302250 50 := rfl
theorem k_L_law_50 (ca : Nat → ClassId) (b L : Nat) (xs : Nat → Int32) : k_L_law ca b L xs 50 = i_istore 4 52 := rfl
theorem k_L_law_52 (ca : Nat → ClassId) (b L : Nat) (xs : Nat → Int32) : k_L_law ca b L xs 52 = i_aload 0 53 := rfl
theorem k_L_law_53 (ca : Nat → ClassId) (b L : Nat) (xs : Nat → Int32) : k_L_law ca b L xs 53 = i_push (.int 2) 54 := rfl
theorem k_L_law_54 (ca : Nat → ClassId) (b L : Nat) (xs : Nat → Int32) : k_L_law ca b L xs 54 = i_iload 3 55 := rfl
theorem k_L_law_55 (ca : Nat → ClassId) (b L : Nat) (xs : Nat → Int32) : k_L_law ca b L xs 55 = i_bin (fun x y => x * y) 56 := rfl
theorem k_L_law_56 (ca : Nat → ClassId) (b L : Nat) (xs : Nat → Int32) : k_L_law ca b L xs 56 = i_push (.int 1) 57 := rfl
theorem k_L_law_57 (ca : Nat → ClassId) (b L : Nat) (xs : Nat → Int32) : k_L_law ca b L xs 57 = i_bin (fun x y => x + y) 58 := rfl
theorem k_L_law_58 (ca : Nat → ClassId) (b L : Nat) (xs : Nat → Int32) : k_L_law ca b L xs 58 = i_lot b L xs 600000 7302250 61 := rfl
theorem k_L_law_61 (ca : Nat → ClassId) (b L : Nat) (xs : Nat → Int32) : k_L_law ca b L xs 61 = i_istore 5 63 := rfl
theorem k_L_law_63 (ca : Nat → ClassId) (b L : Nat) (xs : Nat → Int32) : k_L_law ca b L xs 63 = i_aload 1 64 := rfl
theorem k_L_law_64 (ca : Nat → ClassId) (b L : Nat) (xs : Nat → Int32) : k_L_law ca b L xs 64 = i_callS 1 0 0 600000 7302250 (sp_L_digest ca) 67 := rfl
theorem k_L_law_67 (ca : Nat → ClassId) (b L : Nat) (xs : Nat → Int32) : k_L_law ca b L xs 67 = i_lstore 6 69 := rfl
theorem k_L_law_69 (ca : Nat → ClassId) (b L : Nat) (xs : Nat → Int32) : k_L_law ca b L xs 69 = i_aload 1 70 := rfl
theorem k_L_law_70 (ca : Nat → ClassId) (b L : Nat) (xs : Nat → Int32) : k_L_law ca b L xs 70 = i_push (.int 3) 71 := rfl
theorem k_L_law_71 (ca : Nat → ClassId) (b L : Nat) (xs : Nat → Int32) : k_L_law ca b L xs 71 = i_callV 7 1 0 0 600000 7302250 (sp_X7_count ca) 74 := rfl
theorem k_L_law_74 (ca : Nat → ClassId) (b L : Nat) (xs : Nat → Int32) : k_L_law ca b L xs 74 = i_istore 8 76 := rfl
theorem k_L_law_76 (ca : Nat → ClassId) (b L : Nat) (xs : Nat → Int32) : k_L_law ca b L xs 76 = i_aload 1 77 := rfl
theorem k_L_law_77 (ca : Nat → ClassId) (b L : Nat) (xs : Nat → Int32) : k_L_law ca b L xs 77 = i_iload 3 78 := rfl
theorem k_L_law_78 (ca : Nat → ClassId) (b L : Nat) (xs : Nat → Int32) : k_L_law ca b L xs 78 = i_push (.int 4) 79 := rfl
theorem k_L_law_79 (ca : Nat → ClassId) (b L : Nat) (xs : Nat → Int32) : k_L_law ca b L xs 79 = i_icmp (fun x y => y ≤ x) 90 82 := rfl
theorem k_L_law_82 (ca : Nat → ClassId) (b L : Nat) (xs : Nat → Int32) : k_L_law ca b L xs 82 = i_iload 4 84 := rfl
theorem k_L_law_84 (ca : Nat → ClassId) (b L : Nat) (xs : Nat → Int32) : k_L_law ca b L xs 84 = i_push (.int (-16)) 86 := rfl
theorem k_L_law_86 (ca : Nat → ClassId) (b L : Nat) (xs : Nat → Int32) : k_L_law ca b L xs 86 = i_bin (fun x y => x &&& y) 87 := rfl
theorem k_L_law_87 (ca : Nat → ClassId) (b L : Nat) (xs : Nat → Int32) : k_L_law ca b L xs 87 = i_goto 92 := rfl
theorem k_L_law_90 (ca : Nat → ClassId) (b L : Nat) (xs : Nat → Int32) : k_L_law ca b L xs 90 = i_iload 4 92 := rfl
theorem k_L_law_92 (ca : Nat → ClassId) (b L : Nat) (xs : Nat → Int32) : k_L_law ca b L xs 92 = i_iload 5 94 := rfl
theorem k_L_law_94 (ca : Nat → ClassId) (b L : Nat) (xs : Nat → Int32) : k_L_law ca b L xs 94 = i_callS 3 0 0 600000 7302250 (sp_L_acts ca) 97 := rfl
theorem k_L_law_97 (ca : Nat → ClassId) (b L : Nat) (xs : Nat → Int32) : k_L_law ca b L xs 97 = i_if (fun x => x = 0) 120 100 := rfl
theorem k_L_law_100 (ca : Nat → ClassId) (b L : Nat) (xs : Nat → Int32) : k_L_law ca b L xs 100 = i_iload 3 101 := rfl
theorem k_L_law_101 (ca : Nat → ClassId) (b L : Nat) (xs : Nat → Int32) : k_L_law ca b L xs 101 = i_push (.int 4) 102 := rfl
theorem k_L_law_102 (ca : Nat → ClassId) (b L : Nat) (xs : Nat → Int32) : k_L_law ca b L xs 102 = i_dv (fun x y => x - x / y * y) 103 := rfl
theorem k_L_law_103 (ca : Nat → ClassId) (b L : Nat) (xs : Nat → Int32) : k_L_law ca b L xs 103 = i_push (.int 3) 104 := rfl
theorem k_L_law_104 (ca : Nat → ClassId) (b L : Nat) (xs : Nat → Int32) : k_L_law ca b L xs 104 = i_icmp (fun x y => ¬ x = y) 116 107 := rfl
theorem k_L_law_107 (ca : Nat → ClassId) (b L : Nat) (xs : Nat → Int32) : k_L_law ca b L xs 107 = i_aload 1 108 := rfl
theorem k_L_law_108 (ca : Nat → ClassId) (b L : Nat) (xs : Nat → Int32) : k_L_law ca b L xs 108 = i_iload 5 110 := rfl
theorem k_L_law_110 (ca : Nat → ClassId) (b L : Nat) (xs : Nat → Int32) : k_L_law ca b L xs 110 = i_callS 2 0 0 600000 7302250 (sp_L_holds ca) 113 := rfl
theorem k_L_law_113 (ca : Nat → ClassId) (b L : Nat) (xs : Nat → Int32) : k_L_law ca b L xs 113 = i_if (fun x => x = 0) 120 116 := rfl
theorem k_L_law_116 (ca : Nat → ClassId) (b L : Nat) (xs : Nat → Int32) : k_L_law ca b L xs 116 = i_push (.int 1) 117 := rfl
theorem k_L_law_117 (ca : Nat → ClassId) (b L : Nat) (xs : Nat → Int32) : k_L_law ca b L xs 117 = i_goto 121 := rfl
theorem k_L_law_120 (ca : Nat → ClassId) (b L : Nat) (xs : Nat → Int32) : k_L_law ca b L xs 120 = i_push (.int 0) 121 := rfl
theorem k_L_law_121 (ca : Nat → ClassId) (b L : Nat) (xs : Nat → Int32) : k_L_law ca b L xs 121 = i_istore 2 122 := rfl
theorem k_L_law_122 (ca : Nat → ClassId) (b L : Nat) (xs : Nat → Int32) : k_L_law ca b L xs 122 = i_aload 1 123 := rfl
theorem k_L_law_123 (ca : Nat → ClassId) (b L : Nat) (xs : Nat → Int32) : k_L_law ca b L xs 123 = i_push (.int 3) 124 := rfl
theorem k_L_law_124 (ca : Nat → ClassId) (b L : Nat) (xs : Nat → Int32) : k_L_law ca b L xs 124 = i_callV 7 1 0 0 600000 7302250 (sp_X7_count ca) 127 := rfl
theorem k_L_law_127 (ca : Nat → ClassId) (b L : Nat) (xs : Nat → Int32) : k_L_law ca b L xs 127 = i_istore 9 129 := rfl
theorem k_L_law_129 (ca : Nat → ClassId) (b L : Nat) (xs : Nat → Int32) : k_L_law ca b L xs 129 = i_iload 2 130 := rfl
theorem k_L_law_130 (ca : Nat → ClassId) (b L : Nat) (xs : Nat → Int32) : k_L_law ca b L xs 130 = i_if (fun x => x = 0) 169 133 := rfl
theorem k_L_law_133 (ca : Nat → ClassId) (b L : Nat) (xs : Nat → Int32) : k_L_law ca b L xs 133 = i_iload 9 135 := rfl
theorem k_L_law_135 (ca : Nat → ClassId) (b L : Nat) (xs : Nat → Int32) : k_L_law ca b L xs 135 = i_iload 8 137 := rfl
theorem k_L_law_137 (ca : Nat → ClassId) (b L : Nat) (xs : Nat → Int32) : k_L_law ca b L xs 137 = i_icmp (fun x y => ¬ x = y) 156 140 := rfl
theorem k_L_law_140 (ca : Nat → ClassId) (b L : Nat) (xs : Nat → Int32) : k_L_law ca b L xs 140 = i_iload 8 142 := rfl
theorem k_L_law_142 (ca : Nat → ClassId) (b L : Nat) (xs : Nat → Int32) : k_L_law ca b L xs 142 = i_push (.int 4) 143 := rfl
theorem k_L_law_143 (ca : Nat → ClassId) (b L : Nat) (xs : Nat → Int32) : k_L_law ca b L xs 143 = i_icmp (fun x y => x = y) 165 146 := rfl
theorem k_L_law_146 (ca : Nat → ClassId) (b L : Nat) (xs : Nat → Int32) : k_L_law ca b L xs 146 = i_aload 1 147 := rfl
theorem k_L_law_147 (ca : Nat → ClassId) (b L : Nat) (xs : Nat → Int32) : k_L_law ca b L xs 147 = i_callS 1 0 0 600000 7302250 (sp_L_digest ca) 150 := rfl
theorem k_L_law_150 (ca : Nat → ClassId) (b L : Nat) (xs : Nat → Int32) : k_L_law ca b L xs 150 = i_lload 6 152 := rfl
theorem k_L_law_152 (ca : Nat → ClassId) (b L : Nat) (xs : Nat → Int32) : k_L_law ca b L xs 152 = i_lcmp 153 := rfl
theorem k_L_law_153 (ca : Nat → ClassId) (b L : Nat) (xs : Nat → Int32) : k_L_law ca b L xs 153 = i_if (fun x => x = 0) 165 156 := rfl
theorem k_L_law_156 (ca : Nat → ClassId) (b L : Nat) (xs : Nat → Int32) : k_L_law ca b L xs 156 = i_iload 9 158 := rfl
theorem k_L_law_158 (ca : Nat → ClassId) (b L : Nat) (xs : Nat → Int32) : k_L_law ca b L xs 158 = i_iload 8 160 := rfl
theorem k_L_law_160 (ca : Nat → ClassId) (b L : Nat) (xs : Nat → Int32) : k_L_law ca b L xs 160 = i_push (.int 1) 161 := rfl
theorem k_L_law_161 (ca : Nat → ClassId) (b L : Nat) (xs : Nat → Int32) : k_L_law ca b L xs 161 = i_bin (fun x y => x + y) 162 := rfl
theorem k_L_law_162 (ca : Nat → ClassId) (b L : Nat) (xs : Nat → Int32) : k_L_law ca b L xs 162 = i_icmp (fun x y => ¬ x = y) 169 165 := rfl
theorem k_L_law_165 (ca : Nat → ClassId) (b L : Nat) (xs : Nat → Int32) : k_L_law ca b L xs 165 = i_push (.int 1) 166 := rfl
theorem k_L_law_166 (ca : Nat → ClassId) (b L : Nat) (xs : Nat → Int32) : k_L_law ca b L xs 166 = i_goto 170 := rfl
theorem k_L_law_169 (ca : Nat → ClassId) (b L : Nat) (xs : Nat → Int32) : k_L_law ca b L xs 169 = i_push (.int 0) 170 := rfl
theorem k_L_law_170 (ca : Nat → ClassId) (b L : Nat) (xs : Nat → Int32) : k_L_law ca b L xs 170 = i_istore 2 171 := rfl
theorem k_L_law_171 (ca : Nat → ClassId) (b L : Nat) (xs : Nat → Int32) : k_L_law ca b L xs 171 = i_iload 2 172 := rfl
theorem k_L_law_172 (ca : Nat → ClassId) (b L : Nat) (xs : Nat → Int32) : k_L_law ca b L xs 172 = i_if (fun x => x = 0) 221 175 := rfl
theorem k_L_law_175 (ca : Nat → ClassId) (b L : Nat) (xs : Nat → Int32) : k_L_law ca b L xs 175 = i_iload 9 177 := rfl
theorem k_L_law_177 (ca : Nat → ClassId) (b L : Nat) (xs : Nat → Int32) : k_L_law ca b L xs 177 = i_iload 8 179 := rfl
theorem k_L_law_179 (ca : Nat → ClassId) (b L : Nat) (xs : Nat → Int32) : k_L_law ca b L xs 179 = i_push (.int 1) 180 := rfl
theorem k_L_law_180 (ca : Nat → ClassId) (b L : Nat) (xs : Nat → Int32) : k_L_law ca b L xs 180 = i_bin (fun x y => x + y) 181 := rfl
theorem k_L_law_181 (ca : Nat → ClassId) (b L : Nat) (xs : Nat → Int32) : k_L_law ca b L xs 181 = i_icmp (fun x y => ¬ x = y) 221 184 := rfl
theorem k_L_law_184 (ca : Nat → ClassId) (b L : Nat) (xs : Nat → Int32) : k_L_law ca b L xs 184 = i_iload 5 186 := rfl
theorem k_L_law_186 (ca : Nat → ClassId) (b L : Nat) (xs : Nat → Int32) : k_L_law ca b L xs 186 = i_push (.int 8) 188 := rfl
theorem k_L_law_188 (ca : Nat → ClassId) (b L : Nat) (xs : Nat → Int32) : k_L_law ca b L xs 188 = i_bin (fun x y => x >>> (y &&& 31)) 189 := rfl
theorem k_L_law_189 (ca : Nat → ClassId) (b L : Nat) (xs : Nat → Int32) : k_L_law ca b L xs 189 = i_push (.int 2) 190 := rfl
theorem k_L_law_190 (ca : Nat → ClassId) (b L : Nat) (xs : Nat → Int32) : k_L_law ca b L xs 190 = i_callS 2 0 0 600000 7302250 (sp_L_low ca) 193 := rfl
theorem k_L_law_193 (ca : Nat → ClassId) (b L : Nat) (xs : Nat → Int32) : k_L_law ca b L xs 193 = i_if (fun x => ¬ x = 0) 221 196 := rfl
theorem k_L_law_196 (ca : Nat → ClassId) (b L : Nat) (xs : Nat → Int32) : k_L_law ca b L xs 196 = i_aload 1 197 := rfl
theorem k_L_law_197 (ca : Nat → ClassId) (b L : Nat) (xs : Nat → Int32) : k_L_law ca b L xs 197 = i_callV 7 0 0 0 600000 7302250 (sp_X7_undo ca) 200 := rfl
theorem k_L_law_200 (ca : Nat → ClassId) (b L : Nat) (xs : Nat → Int32) : k_L_law ca b L xs 200 = i_iload 8 202 := rfl
theorem k_L_law_202 (ca : Nat → ClassId) (b L : Nat) (xs : Nat → Int32) : k_L_law ca b L xs 202 = i_icmp (fun x y => ¬ x = y) 219 205 := rfl
theorem k_L_law_205 (ca : Nat → ClassId) (b L : Nat) (xs : Nat → Int32) : k_L_law ca b L xs 205 = i_aload 1 206 := rfl
theorem k_L_law_206 (ca : Nat → ClassId) (b L : Nat) (xs : Nat → Int32) : k_L_law ca b L xs 206 = i_callS 1 0 0 600000 7302250 (sp_L_digest ca) 209 := rfl
theorem k_L_law_209 (ca : Nat → ClassId) (b L : Nat) (xs : Nat → Int32) : k_L_law ca b L xs 209 = i_lload 6 211 := rfl
theorem k_L_law_211 (ca : Nat → ClassId) (b L : Nat) (xs : Nat → Int32) : k_L_law ca b L xs 211 = i_lcmp 212 := rfl
theorem k_L_law_212 (ca : Nat → ClassId) (b L : Nat) (xs : Nat → Int32) : k_L_law ca b L xs 212 = i_if (fun x => ¬ x = 0) 219 215 := rfl
theorem k_L_law_215 (ca : Nat → ClassId) (b L : Nat) (xs : Nat → Int32) : k_L_law ca b L xs 215 = i_push (.int 1) 216 := rfl
theorem k_L_law_216 (ca : Nat → ClassId) (b L : Nat) (xs : Nat → Int32) : k_L_law ca b L xs 216 = i_goto 220 := rfl
theorem k_L_law_219 (ca : Nat → ClassId) (b L : Nat) (xs : Nat → Int32) : k_L_law ca b L xs 219 = i_push (.int 0) 220 := rfl
theorem k_L_law_220 (ca : Nat → ClassId) (b L : Nat) (xs : Nat → Int32) : k_L_law ca b L xs 220 = i_istore 2 221 := rfl
theorem k_L_law_221 (ca : Nat → ClassId) (b L : Nat) (xs : Nat → Int32) : k_L_law ca b L xs 221 = i_iload 2 222 := rfl
theorem k_L_law_222 (ca : Nat → ClassId) (b L : Nat) (xs : Nat → Int32) : k_L_law ca b L xs 222 = i_if (fun x => x = 0) 266 225 := rfl
theorem k_L_law_225 (ca : Nat → ClassId) (b L : Nat) (xs : Nat → Int32) : k_L_law ca b L xs 225 = i_iload 3 226 := rfl
theorem k_L_law_226 (ca : Nat → ClassId) (b L : Nat) (xs : Nat → Int32) : k_L_law ca b L xs 226 = i_push (.int 5) 227 := rfl
theorem k_L_law_227 (ca : Nat → ClassId) (b L : Nat) (xs : Nat → Int32) : k_L_law ca b L xs 227 = i_dv (fun x y => x - x / y * y) 228 := rfl
theorem k_L_law_228 (ca : Nat → ClassId) (b L : Nat) (xs : Nat → Int32) : k_L_law ca b L xs 228 = i_push (.int 4) 229 := rfl
theorem k_L_law_229 (ca : Nat → ClassId) (b L : Nat) (xs : Nat → Int32) : k_L_law ca b L xs 229 = i_icmp (fun x y => ¬ x = y) 266 232 := rfl
theorem k_L_law_232 (ca : Nat → ClassId) (b L : Nat) (xs : Nat → Int32) : k_L_law ca b L xs 232 = i_aload 1 233 := rfl
theorem k_L_law_233 (ca : Nat → ClassId) (b L : Nat) (xs : Nat → Int32) : k_L_law ca b L xs 233 = i_push (.int 3) 234 := rfl
theorem k_L_law_234 (ca : Nat → ClassId) (b L : Nat) (xs : Nat → Int32) : k_L_law ca b L xs 234 = i_callV 7 1 0 0 600000 7302250 (sp_X7_count ca) 237 := rfl
theorem k_L_law_237 (ca : Nat → ClassId) (b L : Nat) (xs : Nat → Int32) : k_L_law ca b L xs 237 = i_istore 10 239 := rfl
theorem k_L_law_239 (ca : Nat → ClassId) (b L : Nat) (xs : Nat → Int32) : k_L_law ca b L xs 239 = i_aload 1 240 := rfl
theorem k_L_law_240 (ca : Nat → ClassId) (b L : Nat) (xs : Nat → Int32) : k_L_law ca b L xs 240 = i_callV 7 0 0 0 600000 7302250 (sp_X7_undo ca) 243 := rfl
theorem k_L_law_243 (ca : Nat → ClassId) (b L : Nat) (xs : Nat → Int32) : k_L_law ca b L xs 243 = i_iload 10 245 := rfl
theorem k_L_law_245 (ca : Nat → ClassId) (b L : Nat) (xs : Nat → Int32) : k_L_law ca b L xs 245 = i_if (fun x => ¬ x = 0) 253 248 := rfl
theorem k_L_law_248 (ca : Nat → ClassId) (b L : Nat) (xs : Nat → Int32) : k_L_law ca b L xs 248 = i_push (.int (-10000002)) 250 := rfl
theorem k_L_law_250 (ca : Nat → ClassId) (b L : Nat) (xs : Nat → Int32) : k_L_law ca b L xs 250 = i_goto 257 := rfl
theorem k_L_law_253 (ca : Nat → ClassId) (b L : Nat) (xs : Nat → Int32) : k_L_law ca b L xs 253 = i_iload 10 255 := rfl
theorem k_L_law_255 (ca : Nat → ClassId) (b L : Nat) (xs : Nat → Int32) : k_L_law ca b L xs 255 = i_push (.int 1) 256 := rfl
theorem k_L_law_256 (ca : Nat → ClassId) (b L : Nat) (xs : Nat → Int32) : k_L_law ca b L xs 256 = i_bin (fun x y => x - y) 257 := rfl
theorem k_L_law_257 (ca : Nat → ClassId) (b L : Nat) (xs : Nat → Int32) : k_L_law ca b L xs 257 = i_icmp (fun x y => ¬ x = y) 264 260 := rfl
theorem k_L_law_260 (ca : Nat → ClassId) (b L : Nat) (xs : Nat → Int32) : k_L_law ca b L xs 260 = i_push (.int 1) 261 := rfl
theorem k_L_law_261 (ca : Nat → ClassId) (b L : Nat) (xs : Nat → Int32) : k_L_law ca b L xs 261 = i_goto 265 := rfl
theorem k_L_law_264 (ca : Nat → ClassId) (b L : Nat) (xs : Nat → Int32) : k_L_law ca b L xs 264 = i_push (.int 0) 265 := rfl
theorem k_L_law_265 (ca : Nat → ClassId) (b L : Nat) (xs : Nat → Int32) : k_L_law ca b L xs 265 = i_istore 2 266 := rfl
theorem k_L_law_266 (ca : Nat → ClassId) (b L : Nat) (xs : Nat → Int32) : k_L_law ca b L xs 266 = i_iinc 3 1 269 := rfl
theorem k_L_law_269 (ca : Nat → ClassId) (b L : Nat) (xs : Nat → Int32) : k_L_law ca b L xs 269 = i_goto 33 := rfl
theorem k_L_law_272 (ca : Nat → ClassId) (b L : Nat) (xs : Nat → Int32) : k_L_law ca b L xs 272 = i_iload 2 273 := rfl
theorem k_L_law_273 (ca : Nat → ClassId) (b L : Nat) (xs : Nat → Int32) : k_L_law ca b L xs 273 = i_ret := rfl
def GoL (ca : Nat → ClassId) (b L : Nat) (xs : Nat → Int32) (K : KT) (KR : RT) : Prop := ∀ stops n c sl pc lv st h, k_L_law ca b L xs pc (wpS (k_L_law ca b L xs) stops K KR n) KR c sl pc lv st h → K c sl pc lv st h
