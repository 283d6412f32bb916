/-! State: a tick's pieces -/
theorem pe {post : Option Value → PH → Prop} {v v' : Int32} {h : PH} (e : v = v') (hp : post (some (.int v')) h) : post (some (.int v)) h := e ▸ hp
theorem pe2 {post : Option Value → PH → Prop} {v v' : Int32} {h h' : PH} (e : v = v') (e2 : h = h') (hp : post (some (.int v')) h') : post (some (.int v)) h := e ▸ e2 ▸ hp
theorem n30 : ¬ (3 : Int32) = 0 := by decide
theorem n100 : ¬ (10 : Int32) = 0 := by decide
def clampF (w : Int32) : Int32 := maxF (-500) (minF w 1500)
def wtG (t po di op tn tf opf out : Int32) (cl : Bool) : Int32 :=
  let w0 := t - (if di = 0 then 0 else (t - out) / di)
  let w1 := if cl = false then w0 else w0 + po
  let w2 := if op = 0 then w1 else w1 - (t - tn) / 10
  clampF (if opf = 0 then w2 else w2 - (t - tf) / 10)
def wtc (s : Nat → Int32) (k : Nat) : Int32 := wtG (s (106 + 7 * k)) (s (107 + 7 * k)) (s (108 + 7 * k)) (s (109 + 7 * k)) (s (106 + 7 * ((k + 1) % 3))) (s (106 + 7 * ((k + 2) % 3))) (s (109 + 7 * ((k + 2) % 3))) (s 8) (closedF (s (17 + 32 * k)) (s (14 + 32 * k)))
def sp_X4_warmthToCome (ca : Nat → ClassId) : SPEC := fun av h post => ∃ b s k, k < 3 ∧ av = [.ref (b 0), .int (nI k)] ∧ SAt ca h b s ∧ post (some (.int (wtc s k))) h
def k_X4_warmthToCome (ca : Nat → ClassId) : Nat → IT := fun pc => lk pc [(0, i_aload 0 1),
  (1, i_getf 4 3 4),
  (4, i_iload 1 5),
  (5, i_aald (ca 4) 6),
  (6, i_astore 2 7),
  (7, i_aload 0 8),
  (8, i_getf 4 3 11),
  (11, i_iload 1 12),
  (12, i_push (.int 1) 13),
  (13, i_bin (fun x y => x + y) 14),
  (14, i_push (.int 3) 15),
  (15, i_dv (fun x y => x - x / y * y) 16),
  (16, i_aald (ca 4) 17),
  (17, i_astore 3 18),
  (18, i_aload 0 19),
  (19, i_getf 4 3 22),
  (22, i_iload 1 23),
  (23, i_push (.int 3) 24),
  (24, i_bin (fun x y => x + y) 25),
  (25, i_push (.int 1) 26),
  (26, i_bin (fun x y => x - y) 27),
  (27, i_push (.int 3) 28),
  (28, i_dv (fun x y => x - x / y * y) 29),
  (29, i_aald (ca 4) 30),
  (30, i_astore 4 32),
  (32, i_aload 2 33),
  (33, i_getf 2 0 36),
  (36, i_aload 2 37),
  (37, i_aload 0 38),
  (38, i_getf 4 4 41),
  (41, i_callV 2 1 0 0 0 0 (sp_X2_lossTo ca) 44),
  (44, i_bin (fun x y => x - y) 45),
  (45, i_istore 5 47),
  (47, i_aload 0 48),
  (48, i_getf 4 2 51),
  (51, i_iload 1 52),
  (52, i_aald (ca 6) 53),
  (53, i_callV 5 0 0 0 0 0 (sp_X5_isClosed ca) 56),
  (56, i_if (fun x => x = 0) 68 59),
  (59, i_iload 5 61),
  (61, i_aload 2 62),
  (62, i_getf 2 1 65),
  (65, i_bin (fun x y => x + y) 66),
  (66, i_istore 5 68),
  (68, i_aload 2 69),
  (69, i_getf 2 3 72),
  (72, i_if (fun x => x = 0) 85 75),
  (75, i_iload 5 77),
  (77, i_aload 2 78),
  (78, i_aload 3 79),
  (79, i_callV 2 1 0 0 0 0 (sp_X2_lossTo_ ca) 82),
  (82, i_bin (fun x y => x - y) 83),
  (83, i_istore 5 85),
  (85, i_aload 4 87),
  (87, i_getf 2 3 90),
  (90, i_if (fun x => x = 0) 104 93),
  (93, i_iload 5 95),
  (95, i_aload 2 96),
  (96, i_aload 4 98),
  (98, i_callV 2 1 0 0 0 0 (sp_X2_lossTo_ ca) 101),
  (101, i_bin (fun x y => x - y) 102),
  (102, i_istore 5 104),
  (104, i_push (.int (-500)) 107),
  (107, i_iload 5 109),
  (109, i_push (.int 1500) 112),
  (112, i_m2 (fun x y => if y < x then y else x) 0 0 115),
  (115, i_m2 (fun x y => if x < y then y else x) 0 0 118),
  (118, i_ret)]
set_option maxRecDepth 20000 in
theorem t_X4_warmthToCome : Tb k_X4_warmthToCome yX4_warmthToCome cX4_warmthToCome 6 (some .int) 1 0 0 := by
  intro l D ca A p e s m args below meth c post X
  unfold k_X4_warmthToCome
  refine snd_cons (snd_aload_n X dX4_warmthToCome_0 rfl) ?_
  refine snd_cons (snd_getf X Fk4 3 (by decide) w_129 dX4_warmthToCome_1) ?_
  refine snd_cons (snd_iload_n X dX4_warmthToCome_4 rfl) ?_
  refine snd_cons (snd_aaload X 4 rfl dX4_warmthToCome_5) ?_
  refine snd_cons (snd_astore_n X dX4_warmthToCome_6 rfl (by decide)) ?_
  refine snd_cons (snd_aload_n X dX4_warmthToCome_7 rfl) ?_
  refine snd_cons (snd_getf X Fk4 3 (by decide) w_129 dX4_warmthToCome_8) ?_
  refine snd_cons (snd_iload_n X dX4_warmthToCome_11 rfl) ?_
  refine snd_cons (snd_iconst X dX4_warmthToCome_12 (by decide)) ?_
  refine snd_cons (snd_iadd X dX4_warmthToCome_13) ?_
  refine snd_cons (snd_iconst X dX4_warmthToCome_14 (by decide)) ?_
  refine snd_cons (snd_irem X dX4_warmthToCome_15) ?_
  refine snd_cons (snd_aaload X 4 rfl dX4_warmthToCome_16) ?_
  refine snd_cons (snd_astore_n X dX4_warmthToCome_17 rfl (by decide)) ?_
  refine snd_cons (snd_aload_n X dX4_warmthToCome_18 rfl) ?_
  refine snd_cons (snd_getf X Fk4 3 (by decide) w_129 dX4_warmthToCome_19) ?_
  refine snd_cons (snd_iload_n X dX4_warmthToCome_22 rfl) ?_
  refine snd_cons (snd_iconst X dX4_warmthToCome_23 (by decide)) ?_
  refine snd_cons (snd_iadd X dX4_warmthToCome_24) ?_
  refine snd_cons (snd_iconst X dX4_warmthToCome_25 (by decide)) ?_
  refine snd_cons (snd_isub X dX4_warmthToCome_26) ?_
  refine snd_cons (snd_iconst X dX4_warmthToCome_27 (by decide)) ?_
  refine snd_cons (snd_irem X dX4_warmthToCome_28) ?_
  refine snd_cons (snd_aaload X 4 rfl dX4_warmthToCome_29) ?_
  refine snd_cons (snd_astore X dX4_warmthToCome_30 (by decide)) ?_
  refine snd_cons (snd_aload_n X dX4_warmthToCome_32 rfl) ?_
  refine snd_cons (snd_getf X Fk2 0 (by decide) w_90 dX4_warmthToCome_33) ?_
  refine snd_cons (snd_aload_n X dX4_warmthToCome_36 rfl) ?_
  refine snd_cons (snd_aload_n X dX4_warmthToCome_37 rfl) ?_
  refine snd_cons (snd_getf X Fk4 4 (by decide) w_131 dX4_warmthToCome_38) ?_
  refine snd_cons (snd_callV X Fk2 (ok_X2_lossTo l D ca) rfl rfl w_433 w_434 w_435 w_4 w_436 (by decide) (by decide) dX4_warmthToCome_41) ?_
  refine snd_cons (snd_isub X dX4_warmthToCome_44) ?_
  refine snd_cons (snd_istore X dX4_warmthToCome_45 (by decide)) ?_
  refine snd_cons (snd_aload_n X dX4_warmthToCome_47 rfl) ?_
  refine snd_cons (snd_getf X Fk4 2 (by decide) w_127 dX4_warmthToCome_48) ?_
  refine snd_cons (snd_iload_n X dX4_warmthToCome_51 rfl) ?_
  refine snd_cons (snd_aaload X 6 rfl dX4_warmthToCome_52) ?_
  refine snd_cons (snd_callV X Fk5 (ok_X5_isClosed l D ca) rfl rfl w_437 w_354 w_355 w_3 w_356 (by decide) (by decide) dX4_warmthToCome_53) ?_
  refine snd_cons (snd_if_eq X dX4_warmthToCome_56 (by decide)) ?_
  refine snd_cons (snd_iload X dX4_warmthToCome_59) ?_
  refine snd_cons (snd_aload_n X dX4_warmthToCome_61 rfl) ?_
  refine snd_cons (snd_getf X Fk2 1 (by decide) w_94 dX4_warmthToCome_62) ?_
  refine snd_cons (snd_iadd X dX4_warmthToCome_65) ?_
  refine snd_cons (snd_istore X dX4_warmthToCome_66 (by decide)) ?_
  refine snd_cons (snd_aload_n X dX4_warmthToCome_68 rfl) ?_
  refine snd_cons (snd_getf X Fk2 3 (by decide) w_98 dX4_warmthToCome_69) ?_
  refine snd_cons (snd_if_eq X dX4_warmthToCome_72 (by decide)) ?_
  refine snd_cons (snd_iload X dX4_warmthToCome_75) ?_
  refine snd_cons (snd_aload_n X dX4_warmthToCome_77 rfl) ?_
  refine snd_cons (snd_aload_n X dX4_warmthToCome_78 rfl) ?_
  refine snd_cons (snd_callV X Fk2 (ok_X2_lossTo_ l D ca) rfl rfl w_438 w_439 w_440 w_4 w_441 (by decide) (by decide) dX4_warmthToCome_79) ?_
  refine snd_cons (snd_isub X dX4_warmthToCome_82) ?_
  refine snd_cons (snd_istore X dX4_warmthToCome_83 (by decide)) ?_
  refine snd_cons (snd_aload X dX4_warmthToCome_85) ?_
  refine snd_cons (snd_getf X Fk2 3 (by decide) w_98 dX4_warmthToCome_87) ?_
  refine snd_cons (snd_if_eq X dX4_warmthToCome_90 (by decide)) ?_
  refine snd_cons (snd_iload X dX4_warmthToCome_93) ?_
  refine snd_cons (snd_aload_n X dX4_warmthToCome_95 rfl) ?_
  refine snd_cons (snd_aload X dX4_warmthToCome_96) ?_
  refine snd_cons (snd_callV X Fk2 (ok_X2_lossTo_ l D ca) rfl rfl w_438 w_439 w_440 w_4 w_441 (by decide) (by decide) dX4_warmthToCome_98) ?_
  refine snd_cons (snd_isub X dX4_warmthToCome_101) ?_
  refine snd_cons (snd_istore X dX4_warmthToCome_102 (by decide)) ?_
  refine snd_cons (snd_sipush X dX4_warmthToCome_104 (by decide)) ?_
  refine snd_cons (snd_iload X dX4_warmthToCome_107) ?_
  refine snd_cons (snd_sipush X dX4_warmthToCome_109 (by decide)) ?_
  refine snd_cons (snd_mmin X rfl rfl w_442 w_388 w_9 w_389 (by decide) (by decide) dX4_warmthToCome_112) ?_
  refine snd_cons (snd_mmax X rfl rfl w_443 w_382 w_9 w_383 (by decide) (by decide) dX4_warmthToCome_115) ?_
  refine snd_cons (snd_ret X dX4_warmthToCome_118) ?_
  exact snd_nil
theorem k_X4_warmthToCome_0 (ca : Nat → ClassId) : k_X4_warmthToCome ca 0 = i_aload 0 1 := rfl
theorem k_X4_warmthToCome_1 (ca : Nat → ClassId) : k_X4_warmthToCome ca 1 = i_getf 4 3 4 := rfl
theorem k_X4_warmthToCome_4 (ca : Nat → ClassId) : k_X4_warmthToCome ca 4 = i_iload 1 5 := rfl
theorem k_X4_warmthToCome_5 (ca : Nat → ClassId) : k_X4_warmthToCome ca 5 = i_aald (ca 4) 6 := rfl
theorem k_X4_warmthToCome_6 (ca : Nat → ClassId) : k_X4_warmthToCome ca 6 = i_astore 2 7 := rfl
theorem k_X4_warmthToCome_7 (ca : Nat → ClassId) : k_X4_warmthToCome ca 7 = i_aload 0 8 := rfl
theorem k_X4_warmthToCome_8 (ca : Nat → ClassId) : k_X4_warmthToCome ca 8 = i_getf 4 3 11 := rfl
theorem k_X4_warmthToCome_11 (ca : Nat → ClassId) : k_X4_warmthToCome ca 11 = i_iload 1 12 := rfl
theorem k_X4_warmthToCome_12 (ca : Nat → ClassId) : k_X4_warmthToCome ca 12 = i_push (.int 1) 13 := rfl
theorem k_X4_warmthToCome_13 (ca : Nat → ClassId) : k_X4_warmthToCome ca 13 = i_bin (fun x y => x + y) 14 := rfl
theorem k_X4_warmthToCome_14 (ca : Nat → ClassId) : k_X4_warmthToCome ca 14 = i_push (.int 3) 15 := rfl
theorem k_X4_warmthToCome_15 (ca : Nat → ClassId) : k_X4_warmthToCome ca 15 = i_dv (fun x y => x - x / y * y) 16 := rfl
theorem k_X4_warmthToCome_16 (ca : Nat → ClassId) : k_X4_warmthToCome ca 16 = i_aald (ca 4) 17 := rfl
theorem k_X4_warmthToCome_17 (ca : Nat → ClassId) : k_X4_warmthToCome ca 17 = i_astore 3 18 := rfl
theorem k_X4_warmthToCome_18 (ca : Nat → ClassId) : k_X4_warmthToCome ca 18 = i_aload 0 19 := rfl
theorem k_X4_warmthToCome_19 (ca : Nat → ClassId) : k_X4_warmthToCome ca 19 = i_getf 4 3 22 := rfl
theorem k_X4_warmthToCome_22 (ca : Nat → ClassId) : k_X4_warmthToCome ca 22 = i_iload 1 23 := rfl
theorem k_X4_warmthToCome_23 (ca : Nat → ClassId) : k_X4_warmthToCome ca 23 = i_push (.int 3) 24 := rfl
theorem k_X4_warmthToCome_24 (ca : Nat → ClassId) : k_X4_warmthToCome ca 24 = i_bin (fun x y => x + y) 25 := rfl
theorem k_X4_warmthToCome_25 (ca : Nat → ClassId) : k_X4_warmthToCome ca 25 = i_push (.int 1) 26 := rfl
theorem k_X4_warmthToCome_26 (ca : Nat → ClassId) : k_X4_warmthToCome ca 26 = i_bin (fun x y => x - y) 27 := rfl
theorem k_X4_warmthToCome_27 (ca : Nat → ClassId) : k_X4_warmthToCome ca 27 = i_push (.int 3) 28 := rfl
theorem k_X4_warmthToCome_28 (ca : Nat → ClassId) : k_X4_warmthToCome ca 28 = i_dv (fun x y => x - x / y * y) 29 := rfl
theorem k_X4_warmthToCome_29 (ca : Nat → ClassId) : k_X4_warmthToCome ca 29 = i_aald (ca 4) 30 := rfl
theorem k_X4_warmthToCome_30 (ca : Nat → ClassId) : k_X4_warmthToCome ca 30 = i_astore 4 32 := rfl
theorem k_X4_warmthToCome_32 (ca : Nat → ClassId) : k_X4_warmthToCome ca 32 = i_aload 2 33 := rfl
theorem k_X4_warmthToCome_33 (ca : Nat → ClassId) : k_X4_warmthToCome ca 33 = i_getf 2 0 36 := rfl
theorem k_X4_warmthToCome_36 (ca : Nat → ClassId) : k_X4_warmthToCome ca 36 = i_aload 2 37 := rfl
theorem k_X4_warmthToCome_37 (ca : Nat → ClassId) : k_X4_warmthToCome ca 37 = i_aload 0 38 := rfl
theorem k_X4_warmthToCome_38 (ca : Nat → ClassId) : k_X4_warmthToCome ca 38 = i_getf 4 4 41 := rfl
theorem k_X4_warmthToCome_41 (ca : Nat → ClassId) : k_X4_warmthToCome ca 41 = i_callV 2 1 0 0 0 0 (sp_X2_lossTo ca) 44 := rfl
theorem k_X4_warmthToCome_44 (ca : Nat → ClassId) : k_X4_warmthToCome ca 44 = i_bin (fun x y => x - y) 45 := rfl
theorem k_X4_warmthToCome_45 (ca : Nat → ClassId) : k_X4_warmthToCome ca 45 = i_istore 5 47 := rfl
theorem k_X4_warmthToCome_47 (ca : Nat → ClassId) : k_X4_warmthToCome ca 47 = i_aload 0 48 := rfl
theorem k_X4_warmthToCome_48 (ca : Nat → ClassId) : k_X4_warmthToCome ca 48 = i_getf 4 2 51 := rfl
theorem k_X4_warmthToCome_51 (ca : Nat → ClassId) : k_X4_warmthToCome ca 51 = i_iload 1 52 := rfl
theorem k_X4_warmthToCome_52 (ca : Nat → ClassId) : k_X4_warmthToCome ca 52 = i_aald (ca 6) 53 := rfl
theorem k_X4_warmthToCome_53 (ca : Nat → ClassId) : k_X4_warmthToCome ca 53 = i_callV 5 0 0 0 0 0 (sp_X5_isClosed ca) 56 := rfl
theorem k_X4_warmthToCome_56 (ca : Nat → ClassId) : k_X4_warmthToCome ca 56 = i_if (fun x => x = 0) 68 59 := rfl
theorem k_X4_warmthToCome_59 (ca : Nat → ClassId) : k_X4_warmthToCome ca 59 = i_iload 5 61 := rfl
theorem k_X4_warmthToCome_61 (ca : Nat → ClassId) : k_X4_warmthToCome ca 61 = i_aload 2 62 := rfl
theorem k_X4_warmthToCome_62 (ca : Nat → ClassId) : k_X4_warmthToCome ca 62 = i_getf 2 1 65 := rfl
theorem k_X4_warmthToCome_65 (ca : Nat → ClassId) : k_X4_warmthToCome ca 65 = i_bin (fun x y => x + y) 66 := rfl
theorem k_X4_warmthToCome_66 (ca : Nat → ClassId) : k_X4_warmthToCome ca 66 = i_istore 5 68 := rfl
theorem k_X4_warmthToCome_68 (ca : Nat → ClassId) : k_X4_warmthToCome ca 68 = i_aload 2 69 := rfl
theorem k_X4_warmthToCome_69 (ca : Nat → ClassId) : k_X4_warmthToCome ca 69 = i_getf 2 3 72 := rfl
theorem k_X4_warmthToCome_72 (ca : Nat → ClassId) : k_X4_warmthToCome ca 72 = i_if (fun x => x = 0) 85 75 := rfl
theorem k_X4_warmthToCome_75 (ca : Nat → ClassId) : k_X4_warmthToCome ca 75 = i_iload 5 77 := rfl
theorem k_X4_warmthToCome_77 (ca : Nat → ClassId) : k_X4_warmthToCome ca 77 = i_aload 2 78 := rfl
theorem k_X4_warmthToCome_78 (ca : Nat → ClassId) : k_X4_warmthToCome ca 78 = i_aload 3 79 := rfl
theorem k_X4_warmthToCome_79 (ca : Nat → ClassId) : k_X4_warmthToCome ca 79 = i_callV 2 1 0 0 0 0 (sp_X2_lossTo_ ca) 82 := rfl
theorem k_X4_warmthToCome_82 (ca : Nat → ClassId) : k_X4_warmthToCome ca 82 = i_bin (fun x y => x - y) 83 := rfl
theorem k_X4_warmthToCome_83 (ca : Nat → ClassId) : k_X4_warmthToCome ca 83 = i_istore 5 85 := rfl
theorem k_X4_warmthToCome_85 (ca : Nat → ClassId) : k_X4_warmthToCome ca 85 = i_aload 4 87 := rfl
theorem k_X4_warmthToCome_87 (ca : Nat → ClassId) : k_X4_warmthToCome ca 87 = i_getf 2 3 90 := rfl
theorem k_X4_warmthToCome_90 (ca : Nat → ClassId) : k_X4_warmthToCome ca 90 = i_if (fun x => x = 0) 104 93 := rfl
theorem k_X4_warmthToCome_93 (ca : Nat → ClassId) : k_X4_warmthToCome ca 93 = i_iload 5 95 := rfl
theorem k_X4_warmthToCome_95 (ca : Nat → ClassId) : k_X4_warmthToCome ca 95 = i_aload 2 96 := rfl
theorem k_X4_warmthToCome_96 (ca : Nat → ClassId) : k_X4_warmthToCome ca 96 = i_aload 4 98 := rfl
theorem k_X4_warmthToCome_98 (ca : Nat → ClassId) : k_X4_warmthToCome ca 98 = i_callV 2 1 0 0 0 0 (sp_X2_lossTo_ ca) 101 := rfl
theorem k_X4_warmthToCome_101 (ca : Nat → ClassId) : k_X4_warmthToCome ca 101 = i_bin (fun x y => x - y) 102 := rfl
theorem k_X4_warmthToCome_102 (ca : Nat → ClassId) : k_X4_warmthToCome ca 102 = i_istore 5 104 := rfl
theorem k_X4_warmthToCome_104 (ca : Nat → ClassId) : k_X4_warmthToCome ca 104 = i_push (.int (-500)) 107 := rfl
theorem k_X4_warmthToCome_107 (ca : Nat → ClassId) : k_X4_warmthToCome ca 107 = i_iload 5 109 := rfl
theorem k_X4_warmthToCome_109 (ca : Nat → ClassId) : k_X4_warmthToCome ca 109 = i_push (.int 1500) 112 := rfl
theorem k_X4_warmthToCome_112 (ca : Nat → ClassId) : k_X4_warmthToCome ca 112 = i_m2 (fun x y => if y < x then y else x) 0 0 115 := rfl
theorem k_X4_warmthToCome_115 (ca : Nat → ClassId) : k_X4_warmthToCome ca 115 = i_m2 (fun x y => if x < y then y else x) 0 0 118 := rfl
theorem k_X4_warmthToCome_118 (ca : Nat → ClassId) : k_X4_warmthToCome ca 118 = i_ret := rfl
set_option maxHeartbeats 4000000 in
set_option maxRecDepth 20000 in
theorem ok_X4_warmthToCome (l : Launch) (D : va_G) (ca : Nat → ClassId) : OkAll l D ca yX4_warmthToCome cX4_warmthToCome 6 (some .int) 1 0 0 (sp_X4_warmthToCome ca) := by
  intro av h post hs
  obtain ⟨b, s, k, hk, rfl, hS, hs⟩ := hs
  obtain ⟨x0, ⟨xf1, xa1, xx1⟩, ⟨xf2, xa2, xx2⟩, ⟨xf3, xa3, xx3⟩, ⟨xf4, xa4, xx4⟩, ⟨xf5, xa5⟩, ⟨xf6, xa6⟩, ⟨xt7, ⟨xf8, xa8, xx8⟩, ⟨xf9, xa9, xx9⟩, ⟨xf10, xa10, xx10⟩⟩, xr11, ⟨xt12, ⟨xf13, xa13, xx13⟩, ⟨xf14, xa14, xx14⟩, ⟨xf15, xa15, xx15⟩⟩, xr16, ⟨xt17, ⟨xf18, xa18, xx18⟩, ⟨xf19, xa19, xx19⟩, ⟨xf20, xa20, xx20⟩⟩, xr21⟩ := id hS
  have xq30 : xf3 0 = some (b 7) := xx3 0 (by decide)
  have xq40 : xf4 0 = some (b 11) := xx4 0 (by decide)
  have xq31 : xf3 1 = some (b 12) := xx3 1 (by decide)
  have xq41 : xf4 1 = some (b 16) := xx4 1 (by decide)
  have xq32 : xf3 2 = some (b 17) := xx3 2 (by decide)
  have xq42 : xf4 2 = some (b 21) := xx4 2 (by decide)
  refine okM_of t_X4_warmthToCome (by decide +kernel) (c1_ref (c1_int c1_nil)) (Nat.le_of_ble_eq_true rfl) ?_
  intro K go
  have hk3 : k = 0 ∨ k = 1 ∨ k = 2 := by omega
  rcases hk3 with rfl | rfl | rfl
  · rw [nI_0]
    refine go (stp []) 70 _ _ _ _ _ _ ?_
    simp only [wpS, ite_not, i_push, i_iload, i_lload, i_aload, i_istore, i_astore, i_lstore, i_iinc, i_bin, i_dv, i_un, i_lbin, i_lsh, i_i2l, i_l2i, i_lcmp, i_dup, i_dup2, i_pop, i_if, i_icmp, i_goto, swG, i_sw, i_getf, i_puti, i_putz, i_putr, i_ald, i_lald, i_aald, i_ast, i_last, i_aast, i_alen, i_new, i_newi, i_newl, i_newq, i_oinit, i_ret, i_zret, i_lret, i_vret, catS, tk, rpush, isO, i_m1, i_m2, i_acopy, i_callV, i_callS, KRet, lget, lput, lputL, lcl0, isL, lv0, List.map_cons, List.map_nil, List.length_cons, List.length_nil, List.cons_append, List.nil_append, Nat.reduceAdd, Nat.reduceSub, Nat.reduceLeDiff, List.replicate_succ, List.replicate_zero, List.getElem?_cons_succ, List.getElem?_cons_zero, List.set_cons_succ, List.set_cons_zero, true_and, and_true, if_true, if_false, reduceIte, Nat.le_refl, Value.category, va_up_app, eq_self, stp, Nat.reduceBEq, Bool.or_false, Bool.false_or, Bool.true_or, Bool.or_true, or_true, true_or, bx_uu, implies_true, true_implies, not_true, not_false_eq_true, false_implies, and_self, Nat.reduceLT, Int32.reduceAdd, Int32.reduceSub, Int32.reduceMul, Int32.reduceLE, Int32.reduceLT, Int32.reduceToNatClampNeg, va_rf_some, Bool.false_eq_true, k_X4_warmthToCome_0 ca, k_X4_warmthToCome_1 ca, k_X4_warmthToCome_4 ca, k_X4_warmthToCome_5 ca, k_X4_warmthToCome_6 ca, k_X4_warmthToCome_7 ca, k_X4_warmthToCome_8 ca, k_X4_warmthToCome_11 ca, k_X4_warmthToCome_12 ca, k_X4_warmthToCome_13 ca, k_X4_warmthToCome_14 ca, k_X4_warmthToCome_15 ca, k_X4_warmthToCome_16 ca, k_X4_warmthToCome_17 ca, k_X4_warmthToCome_18 ca, k_X4_warmthToCome_19 ca, k_X4_warmthToCome_22 ca, k_X4_warmthToCome_23 ca, k_X4_warmthToCome_24 ca, k_X4_warmthToCome_25 ca, k_X4_warmthToCome_26 ca, k_X4_warmthToCome_27 ca, k_X4_warmthToCome_28 ca, k_X4_warmthToCome_29 ca, k_X4_warmthToCome_30 ca, k_X4_warmthToCome_32 ca, k_X4_warmthToCome_33 ca, k_X4_warmthToCome_36 ca, k_X4_warmthToCome_37 ca, k_X4_warmthToCome_38 ca, k_X4_warmthToCome_41 ca, k_X4_warmthToCome_44 ca, k_X4_warmthToCome_45 ca, k_X4_warmthToCome_47 ca, k_X4_warmthToCome_48 ca, k_X4_warmthToCome_51 ca, k_X4_warmthToCome_52 ca, k_X4_warmthToCome_53 ca, k_X4_warmthToCome_56 ca, k_X4_warmthToCome_59 ca, k_X4_warmthToCome_61 ca, k_X4_warmthToCome_62 ca, k_X4_warmthToCome_65 ca, k_X4_warmthToCome_66 ca, k_X4_warmthToCome_68 ca, k_X4_warmthToCome_69 ca, k_X4_warmthToCome_72 ca, k_X4_warmthToCome_75 ca, k_X4_warmthToCome_77 ca, k_X4_warmthToCome_78 ca, k_X4_warmthToCome_79 ca, k_X4_warmthToCome_82 ca, k_X4_warmthToCome_83 ca, k_X4_warmthToCome_85 ca, k_X4_warmthToCome_87 ca, k_X4_warmthToCome_90 ca, k_X4_warmthToCome_93 ca, k_X4_warmthToCome_95 ca, k_X4_warmthToCome_96 ca, k_X4_warmthToCome_98 ca, k_X4_warmthToCome_101 ca, k_X4_warmthToCome_102 ca, k_X4_warmthToCome_104 ca, k_X4_warmthToCome_107 ca, k_X4_warmthToCome_109 ca, k_X4_warmthToCome_112 ca, k_X4_warmthToCome_115 ca, k_X4_warmthToCome_118 ca, eState, eStrip, eRoom, x0, xa1, xa2, xa3, xa4, xa5, xa6, xa8, xa9, xa10, xa13, xa14, xa15, xa18, xa19, xa20, xt7, xt12, xt17, xr11, xr16, xr21, xq30, xq31, xq32, xq40, xq41, xq42, v03, v13, v23, sp_X2_lossTo, sp_X2_lossTo_, sp_X5_isClosed, b2i_0, Int32.reduceDiv, n30, n100]
    clear go
    (repeat' first | intro _ | apply And.intro | apply ifp) <;> (refine pe ?_ hs; simp only [wtc, wtG, clampF, maxF, minF, Nat.reduceMul, Nat.reduceAdd, Nat.reduceMod, if_true, if_false, not_true_eq_false, not_false_eq_true, Bool.false_eq_true, Bool.true_eq_false, Bool.not_eq_false, reduceIte, *])
  · rw [n1]
    refine go (stp []) 70 _ _ _ _ _ _ ?_
    simp only [wpS, ite_not, i_push, i_iload, i_lload, i_aload, i_istore, i_astore, i_lstore, i_iinc, i_bin, i_dv, i_un, i_lbin, i_lsh, i_i2l, i_l2i, i_lcmp, i_dup, i_dup2, i_pop, i_if, i_icmp, i_goto, swG, i_sw, i_getf, i_puti, i_putz, i_putr, i_ald, i_lald, i_aald, i_ast, i_last, i_aast, i_alen, i_new, i_newi, i_newl, i_newq, i_oinit, i_ret, i_zret, i_lret, i_vret, catS, tk, rpush, isO, i_m1, i_m2, i_acopy, i_callV, i_callS, KRet, lget, lput, lputL, lcl0, isL, lv0, List.map_cons, List.map_nil, List.length_cons, List.length_nil, List.cons_append, List.nil_append, Nat.reduceAdd, Nat.reduceSub, Nat.reduceLeDiff, List.replicate_succ, List.replicate_zero, List.getElem?_cons_succ, List.getElem?_cons_zero, List.set_cons_succ, List.set_cons_zero, true_and, and_true, if_true, if_false, reduceIte, Nat.le_refl, Value.category, va_up_app, eq_self, stp, Nat.reduceBEq, Bool.or_false, Bool.false_or, Bool.true_or, Bool.or_true, or_true, true_or, bx_uu, implies_true, true_implies, not_true, not_false_eq_true, false_implies, and_self, Nat.reduceLT, Int32.reduceAdd, Int32.reduceSub, Int32.reduceMul, Int32.reduceLE, Int32.reduceLT, Int32.reduceToNatClampNeg, va_rf_some, Bool.false_eq_true, k_X4_warmthToCome_0 ca, k_X4_warmthToCome_1 ca, k_X4_warmthToCome_4 ca, k_X4_warmthToCome_5 ca, k_X4_warmthToCome_6 ca, k_X4_warmthToCome_7 ca, k_X4_warmthToCome_8 ca, k_X4_warmthToCome_11 ca, k_X4_warmthToCome_12 ca, k_X4_warmthToCome_13 ca, k_X4_warmthToCome_14 ca, k_X4_warmthToCome_15 ca, k_X4_warmthToCome_16 ca, k_X4_warmthToCome_17 ca, k_X4_warmthToCome_18 ca, k_X4_warmthToCome_19 ca, k_X4_warmthToCome_22 ca, k_X4_warmthToCome_23 ca, k_X4_warmthToCome_24 ca, k_X4_warmthToCome_25 ca, k_X4_warmthToCome_26 ca, k_X4_warmthToCome_27 ca, k_X4_warmthToCome_28 ca, k_X4_warmthToCome_29 ca, k_X4_warmthToCome_30 ca, k_X4_warmthToCome_32 ca, k_X4_warmthToCome_33 ca, k_X4_warmthToCome_36 ca, k_X4_warmthToCome_37 ca, k_X4_warmthToCome_38 ca, k_X4_warmthToCome_41 ca, k_X4_warmthToCome_44 ca, k_X4_warmthToCome_45 ca, k_X4_warmthToCome_47 ca, k_X4_warmthToCome_48 ca, k_X4_warmthToCome_51 ca, k_X4_warmthToCome_52 ca, k_X4_warmthToCome_53 ca, k_X4_warmthToCome_56 ca, k_X4_warmthToCome_59 ca, k_X4_warmthToCome_61 ca, k_X4_warmthToCome_62 ca, k_X4_warmthToCome_65 ca, k_X4_warmthToCome_66 ca, k_X4_warmthToCome_68 ca, k_X4_warmthToCome_69 ca, k_X4_warmthToCome_72 ca, k_X4_warmthToCome_75 ca, k_X4_warmthToCome_77 ca, k_X4_warmthToCome_78 ca, k_X4_warmthToCome_79 ca, k_X4_warmthToCome_82 ca, k_X4_warmthToCome_83 ca, k_X4_warmthToCome_85 ca, k_X4_warmthToCome_87 ca, k_X4_warmthToCome_90 ca, k_X4_warmthToCome_93 ca, k_X4_warmthToCome_95 ca, k_X4_warmthToCome_96 ca, k_X4_warmthToCome_98 ca, k_X4_warmthToCome_101 ca, k_X4_warmthToCome_102 ca, k_X4_warmthToCome_104 ca, k_X4_warmthToCome_107 ca, k_X4_warmthToCome_109 ca, k_X4_warmthToCome_112 ca, k_X4_warmthToCome_115 ca, k_X4_warmthToCome_118 ca, eState, eStrip, eRoom, x0, xa1, xa2, xa3, xa4, xa5, xa6, xa8, xa9, xa10, xa13, xa14, xa15, xa18, xa19, xa20, xt7, xt12, xt17, xr11, xr16, xr21, xq30, xq31, xq32, xq40, xq41, xq42, v03, v13, v23, sp_X2_lossTo, sp_X2_lossTo_, sp_X5_isClosed, b2i_0, Int32.reduceDiv, n30, n100]
    clear go
    (repeat' first | intro _ | apply And.intro | apply ifp) <;> (refine pe ?_ hs; simp only [wtc, wtG, clampF, maxF, minF, Nat.reduceMul, Nat.reduceAdd, Nat.reduceMod, if_true, if_false, not_true_eq_false, not_false_eq_true, Bool.false_eq_true, Bool.true_eq_false, Bool.not_eq_false, reduceIte, *])
  · rw [n2]
    refine go (stp []) 70 _ _ _ _ _ _ ?_
    simp only [wpS, ite_not, i_push, i_iload, i_lload, i_aload, i_istore, i_astore, i_lstore, i_iinc, i_bin, i_dv, i_un, i_lbin, i_lsh, i_i2l, i_l2i, i_lcmp, i_dup, i_dup2, i_pop, i_if, i_icmp, i_goto, swG, i_sw, i_getf, i_puti, i_putz, i_putr, i_ald, i_lald, i_aald, i_ast, i_last, i_aast, i_alen, i_new, i_newi, i_newl, i_newq, i_oinit, i_ret, i_zret, i_lret, i_vret, catS, tk, rpush, isO, i_m1, i_m2, i_acopy, i_callV, i_callS, KRet, lget, lput, lputL, lcl0, isL, lv0, List.map_cons, List.map_nil, List.length_cons, List.length_nil, List.cons_append, List.nil_append, Nat.reduceAdd, Nat.reduceSub, Nat.reduceLeDiff, List.replicate_succ, List.replicate_zero, List.getElem?_cons_succ, List.getElem?_cons_zero, List.set_cons_succ, List.set_cons_zero, true_and, and_true, if_true, if_false, reduceIte, Nat.le_refl, Value.category, va_up_app, eq_self, stp, Nat.reduceBEq, Bool.or_false, Bool.false_or, Bool.true_or, Bool.or_true, or_true, true_or, bx_uu, implies_true, true_implies, not_true, not_false_eq_true, false_implies, and_self, Nat.reduceLT, Int32.reduceAdd, Int32.reduceSub, Int32.reduceMul, Int32.reduceLE, Int32.reduceLT, Int32.reduceToNatClampNeg, va_rf_some, Bool.false_eq_true, k_X4_warmthToCome_0 ca, k_X4_warmthToCome_1 ca, k_X4_warmthToCome_4 ca, k_X4_warmthToCome_5 ca, k_X4_warmthToCome_6 ca, k_X4_warmthToCome_7 ca, k_X4_warmthToCome_8 ca, k_X4_warmthToCome_11 ca, k_X4_warmthToCome_12 ca, k_X4_warmthToCome_13 ca, k_X4_warmthToCome_14 ca, k_X4_warmthToCome_15 ca, k_X4_warmthToCome_16 ca, k_X4_warmthToCome_17 ca, k_X4_warmthToCome_18 ca, k_X4_warmthToCome_19 ca, k_X4_warmthToCome_22 ca, k_X4_warmthToCome_23 ca, k_X4_warmthToCome_24 ca, k_X4_warmthToCome_25 ca, k_X4_warmthToCome_26 ca, k_X4_warmthToCome_27 ca, k_X4_warmthToCome_28 ca, k_X4_warmthToCome_29 ca, k_X4_warmthToCome_30 ca, k_X4_warmthToCome_32 ca, k_X4_warmthToCome_33 ca, k_X4_warmthToCome_36 ca, k_X4_warmthToCome_37 ca, k_X4_warmthToCome_38 ca, k_X4_warmthToCome_41 ca, k_X4_warmthToCome_44 ca, k_X4_warmthToCome_45 ca, k_X4_warmthToCome_47 ca, k_X4_warmthToCome_48 ca, k_X4_warmthToCome_51 ca, k_X4_warmthToCome_52 ca, k_X4_warmthToCome_53 ca, k_X4_warmthToCome_56 ca, k_X4_warmthToCome_59 ca, k_X4_warmthToCome_61 ca, k_X4_warmthToCome_62 ca, k_X4_warmthToCome_65 ca, k_X4_warmthToCome_66 ca, k_X4_warmthToCome_68 ca, k_X4_warmthToCome_69 ca, k_X4_warmthToCome_72 ca, k_X4_warmthToCome_75 ca, k_X4_warmthToCome_77 ca, k_X4_warmthToCome_78 ca, k_X4_warmthToCome_79 ca, k_X4_warmthToCome_82 ca, k_X4_warmthToCome_83 ca, k_X4_warmthToCome_85 ca, k_X4_warmthToCome_87 ca, k_X4_warmthToCome_90 ca, k_X4_warmthToCome_93 ca, k_X4_warmthToCome_95 ca, k_X4_warmthToCome_96 ca, k_X4_warmthToCome_98 ca, k_X4_warmthToCome_101 ca, k_X4_warmthToCome_102 ca, k_X4_warmthToCome_104 ca, k_X4_warmthToCome_107 ca, k_X4_warmthToCome_109 ca, k_X4_warmthToCome_112 ca, k_X4_warmthToCome_115 ca, k_X4_warmthToCome_118 ca, eState, eStrip, eRoom, x0, xa1, xa2, xa3, xa4, xa5, xa6, xa8, xa9, xa10, xa13, xa14, xa15, xa18, xa19, xa20, xt7, xt12, xt17, xr11, xr16, xr21, xq30, xq31, xq32, xq40, xq41, xq42, v03, v13, v23, sp_X2_lossTo, sp_X2_lossTo_, sp_X5_isClosed, b2i_0, Int32.reduceDiv, n30, n100]
    clear go
    (repeat' first | intro _ | apply And.intro | apply ifp) <;> (refine pe ?_ hs; simp only [wtc, wtG, clampF, maxF, minF, Nat.reduceMul, Nat.reduceAdd, Nat.reduceMod, if_true, if_false, not_true_eq_false, not_false_eq_true, Bool.false_eq_true, Bool.true_eq_false, Bool.not_eq_false, reduceIte, *])
/-- a strip behind a pull: its row of numbers, with the settings 0 and 1 and its bend -/
def mvU (t : Nat → Int32) (bend : Int32) : Bool := chB (t 1) (t 2) (t 3) (t 5) (t 4) bend && !(decide (chSi (t 1) (t 2) (t 3) (t 5) (t 4) bend = 0))
def mvT (t : Nat → Int32) (un by' bend : Int32) : Nat → Int32 := fun i =>
  if i = 2 then (if mvU t bend = true then tireF (t 6 + 1) (t 2) (t 1) un by' else t 2)
  else if i = 4 then chSi (t 1) (t 2) (t 3) (t 5) (t 4) bend
  else if i = 5 then chPu (t 1) (t 2) (t 3) (t 5) (t 4) bend
  else if i = 6 then (if mvU t bend = true then t 6 + 1 else t 6) else t i
theorem mvT_l (t : Nat → Int32) (un by' bend : Int32) : mvT t un by' bend 0 = t 0 ∧ mvT t un by' bend 1 = t 1 ∧ mvT t un by' bend 3 = t 3 ∧ mvT t un by' bend 7 = t 7 := ⟨rfl, rfl, rfl, rfl⟩
def sp_X4_moveStrip (ca : Nat → ClassId) : SPEC := fun av h post => ∃ b s k r, k < 3 ∧ av = [.ref (b 0), .int (nI k)] ∧ Inj b ∧ SAt ca h b s ∧ Ar h (b 5) (ca 0) 3 r ∧
  post (some (.int (b2i (chB (s (11 + 32 * k)) (s (12 + 32 * k)) (s (13 + 32 * k)) (s (15 + 32 * k)) (s (14 + 32 * k)) (r k * (s (106 + 7 * k) - 200)))))) (va_up h (b (7 + 5 * k)) (some (eStrip (b (8 + 5 * k)) (b (9 + 5 * k)) (b (10 + 5 * k)) (mvT (fun i => s (10 + 32 * k + i)) (s 6) (s 7) (r k * (s (106 + 7 * k) - 200))))))
theorem v02 : vp_in 0 2 := vpl (by decide)
theorem v12 : vp_in 1 2 := vpl (by decide)
def k_X4_moveStrip (ca : Nat → ClassId) : Nat → IT := fun pc => lk pc [(0, i_aload 0 1),
  (1, i_getf 4 2 4),
  (4, i_iload 1 5),
  (5, i_aald (ca 6) 6),
  (6, i_astore 2 7),
  (7, i_aload 2 8),
  (8, i_aload 0 9),
  (9, i_getf 4 6 12),
  (12, i_iload 1 13),
  (13, i_ald (ca 0) 14),
  (14, i_aload 0 15),
  (15, i_getf 4 3 18),
  (18, i_iload 1 19),
  (19, i_aald (ca 4) 20),
  (20, i_getf 2 0 23),
  (23, i_callS 2 0 0 0 0 (sp_X7_bendAt ca) 26),
  (26, i_callV 5 1 0 0 0 0 (sp_X5_changesBy ca) 29),
  (29, i_if (fun x => ¬ x = 0) 34 32),
  (32, i_push (.int 0) 33),
  (33, i_zret),
  (34, i_aload 2 35),
  (35, i_getf 5 10 38),
  (38, i_if (fun x => x = 0) 67 41),
  (41, i_aload 2 42),
  (42, i_dup 43),
  (43, i_getf 5 8 46),
  (46, i_push (.int 1) 47),
  (47, i_bin (fun x y => x + y) 48),
  (48, i_puti 5 8 51),
  (51, i_aload 2 52),
  (52, i_aload 0 53),
  (53, i_getf 4 1 56),
  (56, i_push (.int 0) 57),
  (57, i_ald (ca 0) 58),
  (58, i_aload 0 59),
  (59, i_getf 4 1 62),
  (62, i_push (.int 1) 63),
  (63, i_ald (ca 0) 64),
  (64, i_callV 5 2 0 0 0 0 (sp_X5_getTired ca) 67),
  (67, i_push (.int 1) 68),
  (68, i_zret)]
set_option maxRecDepth 20000 in
theorem t_X4_moveStrip : Tb k_X4_moveStrip yX4_moveStrip cX4_moveStrip 3 (some .boolean) 2 0 0 := by
  intro l D ca A p e s m args below meth c post X
  unfold k_X4_moveStrip
  refine snd_cons (snd_aload_n X dX4_moveStrip_0 rfl) ?_
  refine snd_cons (snd_getf X Fk4 2 (by decide) w_127 dX4_moveStrip_1) ?_
  refine snd_cons (snd_iload_n X dX4_moveStrip_4 rfl) ?_
  refine snd_cons (snd_aaload X 6 rfl dX4_moveStrip_5) ?_
  refine snd_cons (snd_astore_n X dX4_moveStrip_6 rfl (by decide)) ?_
  refine snd_cons (snd_aload_n X dX4_moveStrip_7 rfl) ?_
  refine snd_cons (snd_aload_n X dX4_moveStrip_8 rfl) ?_
  refine snd_cons (snd_getf X Fk4 6 (by decide) w_135 dX4_moveStrip_9) ?_
  refine snd_cons (snd_iload_n X dX4_moveStrip_12 rfl) ?_
  refine snd_cons (snd_iaload X dX4_moveStrip_13) ?_
  refine snd_cons (snd_aload_n X dX4_moveStrip_14 rfl) ?_
  refine snd_cons (snd_getf X Fk4 3 (by decide) w_129 dX4_moveStrip_15) ?_
  refine snd_cons (snd_iload_n X dX4_moveStrip_18 rfl) ?_
  refine snd_cons (snd_aaload X 4 rfl dX4_moveStrip_19) ?_
  refine snd_cons (snd_getf X Fk2 0 (by decide) w_90 dX4_moveStrip_20) ?_
  refine snd_cons (snd_callSN X (ok_X7_bendAt l D ca) rfl rfl (fun h => h.1) w_348 w_1 w_349 (by decide) (by decide) dX4_moveStrip_23) ?_
  refine snd_cons (snd_callV X Fk5 (ok_X5_changesBy l D ca) rfl rfl w_454 w_455 w_456 w_3 w_457 (by decide) (by decide) dX4_moveStrip_26) ?_
  refine snd_cons (snd_if_ne X dX4_moveStrip_29 (by decide)) ?_
  refine snd_cons (snd_iconst X dX4_moveStrip_32 (by decide)) ?_
  refine snd_cons (snd_zret X dX4_moveStrip_33) ?_
  refine snd_cons (snd_aload_n X dX4_moveStrip_34 rfl) ?_
  refine snd_cons (snd_getf X Fk5 10 (by decide) w_58 dX4_moveStrip_35) ?_
  refine snd_cons (snd_if_eq X dX4_moveStrip_38 (by decide)) ?_
  refine snd_cons (snd_aload_n X dX4_moveStrip_41 rfl) ?_
  refine snd_cons (snd_dup X dX4_moveStrip_42) ?_
  refine snd_cons (snd_getf X Fk5 8 (by decide) w_53 dX4_moveStrip_43) ?_
  refine snd_cons (snd_iconst X dX4_moveStrip_46 (by decide)) ?_
  refine snd_cons (snd_iadd X dX4_moveStrip_47) ?_
  refine snd_cons (snd_puti X Fk5 8 (by decide) rfl rfl w_53 dX4_moveStrip_48) ?_
  refine snd_cons (snd_aload_n X dX4_moveStrip_51 rfl) ?_
  refine snd_cons (snd_aload_n X dX4_moveStrip_52 rfl) ?_
  refine snd_cons (snd_getf X Fk4 1 (by decide) w_124 dX4_moveStrip_53) ?_
  refine snd_cons (snd_iconst X dX4_moveStrip_56 (by decide)) ?_
  refine snd_cons (snd_iaload X dX4_moveStrip_57) ?_
  refine snd_cons (snd_aload_n X dX4_moveStrip_58 rfl) ?_
  refine snd_cons (snd_getf X Fk4 1 (by decide) w_124 dX4_moveStrip_59) ?_
  refine snd_cons (snd_iconst X dX4_moveStrip_62 (by decide)) ?_
  refine snd_cons (snd_iaload X dX4_moveStrip_63) ?_
  refine snd_cons (snd_callV X Fk5 (ok_X5_getTired l D ca) rfl rfl w_462 w_463 w_464 w_3 w_465 (by decide) (by decide) dX4_moveStrip_64) ?_
  refine snd_cons (snd_iconst X dX4_moveStrip_67 (by decide)) ?_
  refine snd_cons (snd_zret X dX4_moveStrip_68) ?_
  exact snd_nil
theorem k_X4_moveStrip_0 (ca : Nat → ClassId) : k_X4_moveStrip ca 0 = i_aload 0 1 := rfl
theorem k_X4_moveStrip_1 (ca : Nat → ClassId) : k_X4_moveStrip ca 1 = i_getf 4 2 4 := rfl
theorem k_X4_moveStrip_4 (ca : Nat → ClassId) : k_X4_moveStrip ca 4 = i_iload 1 5 := rfl
theorem k_X4_moveStrip_5 (ca : Nat → ClassId) : k_X4_moveStrip ca 5 = i_aald (ca 6) 6 := rfl
theorem k_X4_moveStrip_6 (ca : Nat → ClassId) : k_X4_moveStrip ca 6 = i_astore 2 7 := rfl
theorem k_X4_moveStrip_7 (ca : Nat → ClassId) : k_X4_moveStrip ca 7 = i_aload 2 8 := rfl
theorem k_X4_moveStrip_8 (ca : Nat → ClassId) : k_X4_moveStrip ca 8 = i_aload 0 9 := rfl
theorem k_X4_moveStrip_9 (ca : Nat → ClassId) : k_X4_moveStrip ca 9 = i_getf 4 6 12 := rfl
theorem k_X4_moveStrip_12 (ca : Nat → ClassId) : k_X4_moveStrip ca 12 = i_iload 1 13 := rfl
theorem k_X4_moveStrip_13 (ca : Nat → ClassId) : k_X4_moveStrip ca 13 = i_ald (ca 0) 14 := rfl
theorem k_X4_moveStrip_14 (ca : Nat → ClassId) : k_X4_moveStrip ca 14 = i_aload 0 15 := rfl
theorem k_X4_moveStrip_15 (ca : Nat → ClassId) : k_X4_moveStrip ca 15 = i_getf 4 3 18 := rfl
theorem k_X4_moveStrip_18 (ca : Nat → ClassId) : k_X4_moveStrip ca 18 = i_iload 1 19 := rfl
theorem k_X4_moveStrip_19 (ca : Nat → ClassId) : k_X4_moveStrip ca 19 = i_aald (ca 4) 20 := rfl
theorem k_X4_moveStrip_20 (ca : Nat → ClassId) : k_X4_moveStrip ca 20 = i_getf 2 0 23 := rfl
theorem k_X4_moveStrip_23 (ca : Nat → ClassId) : k_X4_moveStrip ca 23 = i_callS 2 0 0 0 0 (sp_X7_bendAt ca) 26 := rfl
theorem k_X4_moveStrip_26 (ca : Nat → ClassId) : k_X4_moveStrip ca 26 = i_callV 5 1 0 0 0 0 (sp_X5_changesBy ca) 29 := rfl
theorem k_X4_moveStrip_29 (ca : Nat → ClassId) : k_X4_moveStrip ca 29 = i_if (fun x => ¬ x = 0) 34 32 := rfl
theorem k_X4_moveStrip_32 (ca : Nat → ClassId) : k_X4_moveStrip ca 32 = i_push (.int 0) 33 := rfl
theorem k_X4_moveStrip_33 (ca : Nat → ClassId) : k_X4_moveStrip ca 33 = i_zret := rfl
theorem k_X4_moveStrip_34 (ca : Nat → ClassId) : k_X4_moveStrip ca 34 = i_aload 2 35 := rfl
theorem k_X4_moveStrip_35 (ca : Nat → ClassId) : k_X4_moveStrip ca 35 = i_getf 5 10 38 := rfl
theorem k_X4_moveStrip_38 (ca : Nat → ClassId) : k_X4_moveStrip ca 38 = i_if (fun x => x = 0) 67 41 := rfl
theorem k_X4_moveStrip_41 (ca : Nat → ClassId) : k_X4_moveStrip ca 41 = i_aload 2 42 := rfl
theorem k_X4_moveStrip_42 (ca : Nat → ClassId) : k_X4_moveStrip ca 42 = i_dup 43 := rfl
theorem k_X4_moveStrip_43 (ca : Nat → ClassId) : k_X4_moveStrip ca 43 = i_getf 5 8 46 := rfl
theorem k_X4_moveStrip_46 (ca : Nat → ClassId) : k_X4_moveStrip ca 46 = i_push (.int 1) 47 := rfl
theorem k_X4_moveStrip_47 (ca : Nat → ClassId) : k_X4_moveStrip ca 47 = i_bin (fun x y => x + y) 48 := rfl
theorem k_X4_moveStrip_48 (ca : Nat → ClassId) : k_X4_moveStrip ca 48 = i_puti 5 8 51 := rfl
theorem k_X4_moveStrip_51 (ca : Nat → ClassId) : k_X4_moveStrip ca 51 = i_aload 2 52 := rfl
theorem k_X4_moveStrip_52 (ca : Nat → ClassId) : k_X4_moveStrip ca 52 = i_aload 0 53 := rfl
theorem k_X4_moveStrip_53 (ca : Nat → ClassId) : k_X4_moveStrip ca 53 = i_getf 4 1 56 := rfl
theorem k_X4_moveStrip_56 (ca : Nat → ClassId) : k_X4_moveStrip ca 56 = i_push (.int 0) 57 := rfl
theorem k_X4_moveStrip_57 (ca : Nat → ClassId) : k_X4_moveStrip ca 57 = i_ald (ca 0) 58 := rfl
theorem k_X4_moveStrip_58 (ca : Nat → ClassId) : k_X4_moveStrip ca 58 = i_aload 0 59 := rfl
theorem k_X4_moveStrip_59 (ca : Nat → ClassId) : k_X4_moveStrip ca 59 = i_getf 4 1 62 := rfl
theorem k_X4_moveStrip_62 (ca : Nat → ClassId) : k_X4_moveStrip ca 62 = i_push (.int 1) 63 := rfl
theorem k_X4_moveStrip_63 (ca : Nat → ClassId) : k_X4_moveStrip ca 63 = i_ald (ca 0) 64 := rfl
theorem k_X4_moveStrip_64 (ca : Nat → ClassId) : k_X4_moveStrip ca 64 = i_callV 5 2 0 0 0 0 (sp_X5_getTired ca) 67 := rfl
theorem k_X4_moveStrip_67 (ca : Nat → ClassId) : k_X4_moveStrip ca 67 = i_push (.int 1) 68 := rfl
theorem k_X4_moveStrip_68 (ca : Nat → ClassId) : k_X4_moveStrip ca 68 = i_zret := rfl
set_option maxHeartbeats 4000000 in
set_option maxRecDepth 20000 in
theorem ok_X4_moveStrip (l : Launch) (D : va_G) (ca : Nat → ClassId) : OkAll l D ca yX4_moveStrip cX4_moveStrip 3 (some .boolean) 2 0 0 (sp_X4_moveStrip ca) := by
  intro av h post hs
  obtain ⟨b, s, k, r, hk, rfl, hb, hS, ⟨fr, ar, er⟩, hs⟩ := hs
  obtain ⟨x0, ⟨xf1, xa1, xx1⟩, ⟨xf2, xa2, xx2⟩, ⟨xf3, xa3, xx3⟩, ⟨xf4, xa4, xx4⟩, ⟨xf5, xa5⟩, ⟨xf6, xa6⟩, ⟨xt7, ⟨xf8, xa8, xx8⟩, ⟨xf9, xa9, xx9⟩, ⟨xf10, xa10, xx10⟩⟩, xr11, ⟨xt12, ⟨xf13, xa13, xx13⟩, ⟨xf14, xa14, xx14⟩, ⟨xf15, xa15, xx15⟩⟩, xr16, ⟨xt17, ⟨xf18, xa18, xx18⟩, ⟨xf19, xa19, xx19⟩, ⟨xf20, xa20, xx20⟩⟩, xr21⟩ := id hS
  have xq30 : xf3 0 = some (b 7) := xx3 0 (by decide)
  have xq40 : xf4 0 = some (b 11) := xx4 0 (by decide)
  have xq31 : xf3 1 = some (b 12) := xx3 1 (by decide)
  have xq41 : xf4 1 = some (b 16) := xx4 1 (by decide)
  have xq32 : xf3 2 = some (b 17) := xx3 2 (by decide)
  have xq42 : xf4 2 = some (b 21) := xx4 2 (by decide)
  have y0 := xx2 0 (by decide)
  have y1 := xx2 1 (by decide)
  refine okM_of t_X4_moveStrip (by decide +kernel) (c1_ref (c1_int c1_nil)) (Nat.le_of_ble_eq_true rfl) ?_
  intro K go
  have hbe : ∀ i j, (b i = b j) = (i = j) := fun i j => propext (hb i j)
  have hk3 : k = 0 ∨ k = 1 ∨ k = 2 := by omega
  rcases hk3 with rfl | rfl | rfl
  · rw [nI_0]
    have z := er 0 (by decide)
    refine go (stp []) 45 _ _ _ _ _ _ ?_
    simp only [wpS, ite_not, i_push, i_iload, i_lload, i_aload, i_istore, i_astore, i_lstore, i_iinc, i_bin, i_dv, i_un, i_lbin, i_lsh, i_i2l, i_l2i, i_lcmp, i_dup, i_dup2, i_pop, i_if, i_icmp, i_goto, swG, i_sw, i_getf, i_puti, i_putz, i_putr, i_ald, i_lald, i_aald, i_ast, i_last, i_aast, i_alen, i_new, i_newi, i_newl, i_newq, i_oinit, i_ret, i_zret, i_lret, i_vret, catS, tk, rpush, isO, i_m1, i_m2, i_acopy, i_callV, i_callS, KRet, lget, lput, lputL, lcl0, isL, lv0, List.map_cons, List.map_nil, List.length_cons, List.length_nil, List.cons_append, List.nil_append, Nat.reduceAdd, Nat.reduceSub, Nat.reduceLeDiff, List.replicate_succ, List.replicate_zero, List.getElem?_cons_succ, List.getElem?_cons_zero, List.set_cons_succ, List.set_cons_zero, true_and, and_true, if_true, if_false, reduceIte, Nat.le_refl, Value.category, va_up_app, eq_self, stp, Nat.reduceBEq, Bool.or_false, Bool.false_or, Bool.true_or, Bool.or_true, or_true, true_or, bx_uu, implies_true, true_implies, not_true, not_false_eq_true, false_implies, and_self, Nat.reduceLT, Int32.reduceAdd, Int32.reduceSub, Int32.reduceMul, Int32.reduceLE, Int32.reduceLT, Int32.reduceToNatClampNeg, va_rf_some, Bool.false_eq_true, k_X4_moveStrip_0 ca, k_X4_moveStrip_1 ca, k_X4_moveStrip_4 ca, k_X4_moveStrip_5 ca, k_X4_moveStrip_6 ca, k_X4_moveStrip_7 ca, k_X4_moveStrip_8 ca, k_X4_moveStrip_9 ca, k_X4_moveStrip_12 ca, k_X4_moveStrip_13 ca, k_X4_moveStrip_14 ca, k_X4_moveStrip_15 ca, k_X4_moveStrip_18 ca, k_X4_moveStrip_19 ca, k_X4_moveStrip_20 ca, k_X4_moveStrip_23 ca, k_X4_moveStrip_26 ca, k_X4_moveStrip_29 ca, k_X4_moveStrip_32 ca, k_X4_moveStrip_33 ca, k_X4_moveStrip_34 ca, k_X4_moveStrip_35 ca, k_X4_moveStrip_38 ca, k_X4_moveStrip_41 ca, k_X4_moveStrip_42 ca, k_X4_moveStrip_43 ca, k_X4_moveStrip_46 ca, k_X4_moveStrip_47 ca, k_X4_moveStrip_48 ca, k_X4_moveStrip_51 ca, k_X4_moveStrip_52 ca, k_X4_moveStrip_53 ca, k_X4_moveStrip_56 ca, k_X4_moveStrip_57 ca, k_X4_moveStrip_58 ca, k_X4_moveStrip_59 ca, k_X4_moveStrip_62 ca, k_X4_moveStrip_63 ca, k_X4_moveStrip_64 ca, k_X4_moveStrip_67 ca, k_X4_moveStrip_68 ca, eState, eStrip, eRoom, x0, xa1, xa2, xa3, xa4, xa6, xa8, xa9, xa10, xa13, xa14, xa15, xa18, xa19, xa20, xt7, xt12, xt17, xr11, xr16, xr21, xq30, xq31, xq32, xq40, xq41, xq42, ar, z, y0, y1, v03, v13, v23, v02, v12, sp_X7_bendAt, sp_X5_changesBy, sp_X5_getTired, b2i_0, b2i_1, hbe, Nat.reduceEqDiff, b2i_01, Classical.not_not]
    clear go
    (repeat' first | intro _ | apply And.intro | apply ifp) <;> (try simp only [Bool.not_eq_false] at *) <;> (refine pe2 ?_ ?_ hs <;> simp [eStrip, mvT, mvU, b2i_t, b2i_f, *])
  · rw [n1]
    have z := er 1 (by decide)
    refine go (stp []) 45 _ _ _ _ _ _ ?_
    simp only [wpS, ite_not, i_push, i_iload, i_lload, i_aload, i_istore, i_astore, i_lstore, i_iinc, i_bin, i_dv, i_un, i_lbin, i_lsh, i_i2l, i_l2i, i_lcmp, i_dup, i_dup2, i_pop, i_if, i_icmp, i_goto, swG, i_sw, i_getf, i_puti, i_putz, i_putr, i_ald, i_lald, i_aald, i_ast, i_last, i_aast, i_alen, i_new, i_newi, i_newl, i_newq, i_oinit, i_ret, i_zret, i_lret, i_vret, catS, tk, rpush, isO, i_m1, i_m2, i_acopy, i_callV, i_callS, KRet, lget, lput, lputL, lcl0, isL, lv0, List.map_cons, List.map_nil, List.length_cons, List.length_nil, List.cons_append, List.nil_append, Nat.reduceAdd, Nat.reduceSub, Nat.reduceLeDiff, List.replicate_succ, List.replicate_zero, List.getElem?_cons_succ, List.getElem?_cons_zero, List.set_cons_succ, List.set_cons_zero, true_and, and_true, if_true, if_false, reduceIte, Nat.le_refl, Value.category, va_up_app, eq_self, stp, Nat.reduceBEq, Bool.or_false, Bool.false_or, Bool.true_or, Bool.or_true, or_true, true_or, bx_uu, implies_true, true_implies, not_true, not_false_eq_true, false_implies, and_self, Nat.reduceLT, Int32.reduceAdd, Int32.reduceSub, Int32.reduceMul, Int32.reduceLE, Int32.reduceLT, Int32.reduceToNatClampNeg, va_rf_some, Bool.false_eq_true, k_X4_moveStrip_0 ca, k_X4_moveStrip_1 ca, k_X4_moveStrip_4 ca, k_X4_moveStrip_5 ca, k_X4_moveStrip_6 ca, k_X4_moveStrip_7 ca, k_X4_moveStrip_8 ca, k_X4_moveStrip_9 ca, k_X4_moveStrip_12 ca, k_X4_moveStrip_13 ca, k_X4_moveStrip_14 ca, k_X4_moveStrip_15 ca, k_X4_moveStrip_18 ca, k_X4_moveStrip_19 ca, k_X4_moveStrip_20 ca, k_X4_moveStrip_23 ca, k_X4_moveStrip_26 ca, k_X4_moveStrip_29 ca, k_X4_moveStrip_32 ca, k_X4_moveStrip_33 ca, k_X4_moveStrip_34 ca, k_X4_moveStrip_35 ca, k_X4_moveStrip_38 ca, k_X4_moveStrip_41 ca, k_X4_moveStrip_42 ca, k_X4_moveStrip_43 ca, k_X4_moveStrip_46 ca, k_X4_moveStrip_47 ca, k_X4_moveStrip_48 ca, k_X4_moveStrip_51 ca, k_X4_moveStrip_52 ca, k_X4_moveStrip_53 ca, k_X4_moveStrip_56 ca, k_X4_moveStrip_57 ca, k_X4_moveStrip_58 ca, k_X4_moveStrip_59 ca, k_X4_moveStrip_62 ca, k_X4_moveStrip_63 ca, k_X4_moveStrip_64 ca, k_X4_moveStrip_67 ca, k_X4_moveStrip_68 ca, eState, eStrip, eRoom, x0, xa1, xa2, xa3, xa4, xa6, xa8, xa9, xa10, xa13, xa14, xa15, xa18, xa19, xa20, xt7, xt12, xt17, xr11, xr16, xr21, xq30, xq31, xq32, xq40, xq41, xq42, ar, z, y0, y1, v03, v13, v23, v02, v12, sp_X7_bendAt, sp_X5_changesBy, sp_X5_getTired, b2i_0, b2i_1, hbe, Nat.reduceEqDiff, b2i_01, Classical.not_not]
    clear go
    (repeat' first | intro _ | apply And.intro | apply ifp) <;> (try simp only [Bool.not_eq_false] at *) <;> (refine pe2 ?_ ?_ hs <;> simp [eStrip, mvT, mvU, b2i_t, b2i_f, *])
  · rw [n2]
    have z := er 2 (by decide)
    refine go (stp []) 45 _ _ _ _ _ _ ?_
    simp only [wpS, ite_not, i_push, i_iload, i_lload, i_aload, i_istore, i_astore, i_lstore, i_iinc, i_bin, i_dv, i_un, i_lbin, i_lsh, i_i2l, i_l2i, i_lcmp, i_dup, i_dup2, i_pop, i_if, i_icmp, i_goto, swG, i_sw, i_getf, i_puti, i_putz, i_putr, i_ald, i_lald, i_aald, i_ast, i_last, i_aast, i_alen, i_new, i_newi, i_newl, i_newq, i_oinit, i_ret, i_zret, i_lret, i_vret, catS, tk, rpush, isO, i_m1, i_m2, i_acopy, i_callV, i_callS, KRet, lget, lput, lputL, lcl0, isL, lv0, List.map_cons, List.map_nil, List.length_cons, List.length_nil, List.cons_append, List.nil_append, Nat.reduceAdd, Nat.reduceSub, Nat.reduceLeDiff, List.replicate_succ, List.replicate_zero, List.getElem?_cons_succ, List.getElem?_cons_zero, List.set_cons_succ, List.set_cons_zero, true_and, and_true, if_true, if_false, reduceIte, Nat.le_refl, Value.category, va_up_app, eq_self, stp, Nat.reduceBEq, Bool.or_false, Bool.false_or, Bool.true_or, Bool.or_true, or_true, true_or, bx_uu, implies_true, true_implies, not_true, not_false_eq_true, false_implies, and_self, Nat.reduceLT, Int32.reduceAdd, Int32.reduceSub, Int32.reduceMul, Int32.reduceLE, Int32.reduceLT, Int32.reduceToNatClampNeg, va_rf_some, Bool.false_eq_true, k_X4_moveStrip_0 ca, k_X4_moveStrip_1 ca, k_X4_moveStrip_4 ca, k_X4_moveStrip_5 ca, k_X4_moveStrip_6 ca, k_X4_moveStrip_7 ca, k_X4_moveStrip_8 ca, k_X4_moveStrip_9 ca, k_X4_moveStrip_12 ca, k_X4_moveStrip_13 ca, k_X4_moveStrip_14 ca, k_X4_moveStrip_15 ca, k_X4_moveStrip_18 ca, k_X4_moveStrip_19 ca, k_X4_moveStrip_20 ca, k_X4_moveStrip_23 ca, k_X4_moveStrip_26 ca, k_X4_moveStrip_29 ca, k_X4_moveStrip_32 ca, k_X4_moveStrip_33 ca, k_X4_moveStrip_34 ca, k_X4_moveStrip_35 ca, k_X4_moveStrip_38 ca, k_X4_moveStrip_41 ca, k_X4_moveStrip_42 ca, k_X4_moveStrip_43 ca, k_X4_moveStrip_46 ca, k_X4_moveStrip_47 ca, k_X4_moveStrip_48 ca, k_X4_moveStrip_51 ca, k_X4_moveStrip_52 ca, k_X4_moveStrip_53 ca, k_X4_moveStrip_56 ca, k_X4_moveStrip_57 ca, k_X4_moveStrip_58 ca, k_X4_moveStrip_59 ca, k_X4_moveStrip_62 ca, k_X4_moveStrip_63 ca, k_X4_moveStrip_64 ca, k_X4_moveStrip_67 ca, k_X4_moveStrip_68 ca, eState, eStrip, eRoom, x0, xa1, xa2, xa3, xa4, xa6, xa8, xa9, xa10, xa13, xa14, xa15, xa18, xa19, xa20, xt7, xt12, xt17, xr11, xr16, xr21, xq30, xq31, xq32, xq40, xq41, xq42, ar, z, y0, y1, v03, v13, v23, v02, v12, sp_X7_bendAt, sp_X5_changesBy, sp_X5_getTired, b2i_0, b2i_1, hbe, Nat.reduceEqDiff, b2i_01, Classical.not_not]
    clear go
    (repeat' first | intro _ | apply And.intro | apply ifp) <;> (try simp only [Bool.not_eq_false] at *) <;> (refine pe2 ?_ ?_ hs <;> simp [eStrip, mvT, mvU, b2i_t, b2i_f, *])

