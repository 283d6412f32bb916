/-! LoopFinder: seek; SnapStacks: loop -/
def lpS (s : Nat → Int32) : Nat → Int32 := upd s 6 0
def lpD (s : Nat → Int32) (i : Nat) : Nat → Int32 := tkD (lpS s) (rts (lpS s)) i
def kyQ (s : Nat → Int32) (i : Nat) : Int64 := kyS (lpD s i)
def sgQ (s : Nat → Int32) (i : Nat) : Int32 := 0 + lpD s i 16 + lpD s i 48 + lpD s i 80
def LoopRes (s : Nat → Int32) (fo le pe sn : Int32) : Prop := (∃ M j, M ≤ 1500 ∧ j < M ∧ kyQ s j = kyQ s M ∧ (∀ a c, a < c → c < M → ¬ kyQ s a = kyQ s c) ∧ fo = 1 ∧ le = nI j ∧ pe = nI (M - j) ∧ sn = sgQ s M - sgQ s j) ∨ ((∀ a c, a < c → c ≤ 1500 → ¬ kyQ s a = kyQ s c) ∧ fo = 0)
def LF (ca : Nat → ClassId) (h : PH) (x4 : Nat) (tb : Nat → Nat) (kx sx px : Nat) (fo le pe sn : Int32) : Prop := h x4 = some (eLoop (tb 0) kx sx px fo le pe sn) ∧ (∃ tt, SAt ca h tb tt) ∧ (∃ kf, h kx = some (.inl (ca 1, 1501, .inr (.inl kf)))) ∧ (∃ sf, h sx = some (.inl (ca 0, 1501, .inl sf))) ∧ ∃ T, h px = some (.inl (ca 0, 4096, .inl T))
def DLp (x4 : Nat) (tb : Nat → Nat) (kx sx px : Nat) (b : Nat → Nat) : Prop := Inj tb ∧ Inj b ∧ Dis tb b ∧ (∀ k, k < 22 → ¬ x4 = tb k) ∧ (∀ k, k < 22 → ¬ kx = tb k) ∧ (∀ k, k < 22 → ¬ sx = tb k) ∧ (∀ k, k < 22 → ¬ px = tb k) ∧ ¬ x4 = kx ∧ ¬ x4 = sx ∧ ¬ x4 = px ∧ ¬ kx = sx ∧ ¬ kx = px ∧ ¬ sx = px
def SmL (x4 : Nat) (tb : Nat → Nat) (kx sx px : Nat) (h h' : PH) : Prop := ∀ x : Nat, ¬ x = x4 → (∀ k, k < 22 → ¬ x = tb k) → ¬ x = kx → ¬ x = sx → ¬ x = px → h' x = h x
theorem SmL.tr {x4 : Nat} {tb : Nat → Nat} {kx sx px : Nat} {h h1 h2 : PH} (x : SmL x4 tb kx sx px h h1) (y : SmL x4 tb kx sx px h1 h2) : SmL x4 tb kx sx px h h2 := fun z a1 a2 a3 a4 a5 => (y z a1 a2 a3 a4 a5).trans (x z a1 a2 a3 a4 a5)
theorem WfS_lp {s : Nat → Int32} (W : WfS s) : WfS (lpS s) := WfS_cong W (fun k hk => (pk_un (by omega)).symm) (fun k hk i hi => (pk_un (by omega)).symm) (fun i hi => (pk_un (by omega)).symm)
def sp_X1_seek (ca : Nat → ClassId) : SPEC := fun av h post => ∃ x4 tb kx sx px fo le pe sn b s, av = [.ref x4, .ref (b 0)] ∧ DLp x4 tb kx sx px b ∧ SAt ca h b s ∧ BoS s ∧ WfS s ∧ LF ca h x4 tb kx sx px fo le pe sn ∧
  ∀ h' fo' le' pe' sn', LoopRes s fo' le' pe' sn' → LF ca h' x4 tb kx sx px fo' le' pe' sn' → SmL x4 tb kx sx px h h' → post none h'
def k_X1_seek (ca : Nat → ClassId) : Nat → IT := fun pc => if pc < 76 then lk pc [(0, i_aload 0 1),
  (1, i_getf 1 0 4),
  (4, i_aload 1 5),
  (5, i_callV 4 1 0 0 0 0 (sp_X4_copyFrom ca) 8),
  (8, i_aload 0 9),
  (9, i_getf 1 0 12),
  (12, i_getf 4 1 15),
  (15, i_push (.int 0) 16),
  (16, i_push (.int 0) 17),
  (17, i_ast (fun x => x) (ca 0) 18),
  (18, i_aload 0 19),
  (19, i_getf 1 0 22),
  (22, i_callV 4 0 0 0 0 0 (sp_X4_sumRates ca) 25),
  (25, i_aload 0 26),
  (26, i_getf 1 3 29),
  (29, i_push (.int (-1)) 30),
  (30, i_callS 2 0 0 0 0 (sp_J7_fill_53178 ca) 33),
  (33, i_aload 0 34),
  (34, i_push (.int 0) 35),
  (35, i_putz 1 4 38),
  (38, i_push (.int 0) 39),
  (39, i_istore 2 40),
  (40, i_iload 2 41),
  (41, i_push (.int 1500) 44),
  (44, i_icmp (fun x y => y < x) 139 47),
  (47, i_aload 0 48),
  (48, i_getf 1 4 51),
  (51, i_if (fun x => ¬ x = 0) 139 54),
  (54, i_aload 0 55),
  (55, i_getf 1 1 58),
  (58, i_iload 2 59),
  (59, i_aload 0 60),
  (60, i_getf 1 0 63),
  (63, i_callV 4 0 0 0 0 0 (sp_X4_loopKey ca) 66),
  (66, i_last (ca 1) 67),
  (67, i_aload 0 68),
  (68, i_getf 1 2 71),
  (71, i_iload 2 72),
  (72, i_aload 0 73),
  (73, i_getf 1 0 76)] else
  lk pc [(76, i_callV 4 0 0 0 0 0 (sp_X4_snaps ca) 79),
  (79, i_ast (fun x => x) (ca 0) 80),
  (80, i_aload 0 81),
  (81, i_iload 2 82),
  (82, i_callV 1 1 0 0 0 0 (sp_X1_sameStepOrEnter ca) 85),
  (85, i_istore 3 86),
  (86, i_iload 3 87),
  (87, i_push (.int (-1)) 88),
  (88, i_icmp (fun x y => x = y) 125 91),
  (91, i_aload 0 92),
  (92, i_push (.int 1) 93),
  (93, i_putz 1 4 96),
  (96, i_aload 0 97),
  (97, i_iload 3 98),
  (98, i_puti 1 5 101),
  (101, i_aload 0 102),
  (102, i_iload 2 103),
  (103, i_iload 3 104),
  (104, i_bin (fun x y => x - y) 105),
  (105, i_puti 1 6 108),
  (108, i_aload 0 109),
  (109, i_aload 0 110),
  (110, i_getf 1 2 113),
  (113, i_iload 2 114),
  (114, i_ald (ca 0) 115),
  (115, i_aload 0 116),
  (116, i_getf 1 2 119),
  (119, i_iload 3 120),
  (120, i_ald (ca 0) 121),
  (121, i_bin (fun x y => x - y) 122),
  (122, i_puti 1 7 125),
  (125, i_aload 0 126),
  (126, i_getf 1 0 129),
  (129, i_callV 4 0 0 0 0 0 (sp_X4_passTick ca) 132),
  (132, i_pop 133),
  (133, i_iinc 2 1 136),
  (136, i_goto 40),
  (139, i_vret)]
set_option maxRecDepth 20000 in
theorem t_X1_seek : Tb k_X1_seek yX1_seek cX1_seek 4 none 4 0 0 := by
  intro l D ca A p e s m args below meth c post X
  unfold k_X1_seek
  refine snd_split (76) ?_ ?_
  · refine snd_cons (snd_aload_n X dX1_seek_0 rfl) ?_
    refine snd_cons (snd_getf X Fk1 0 (by decide) w_197 dX1_seek_1) ?_
    refine snd_cons (snd_aload_n X dX1_seek_4 rfl) ?_
    refine snd_cons (snd_callV X Fk4 (ok_X4_copyFrom l D ca) rfl rfl w_406 w_295 w_296 w_2 w_297 (by decide) (by decide) dX1_seek_5) ?_
    refine snd_cons (snd_aload_n X dX1_seek_8 rfl) ?_
    refine snd_cons (snd_getf X Fk1 0 (by decide) w_197 dX1_seek_9) ?_
    refine snd_cons (snd_getf X Fk4 1 (by decide) w_125 dX1_seek_12) ?_
    refine snd_cons (snd_iconst X dX1_seek_15 (by decide)) ?_
    refine snd_cons (snd_iconst X dX1_seek_16 (by decide)) ?_
    refine snd_cons (snd_iastore X dX1_seek_17) ?_
    refine snd_cons (snd_aload_n X dX1_seek_18 rfl) ?_
    refine snd_cons (snd_getf X Fk1 0 (by decide) w_197 dX1_seek_19) ?_
    refine snd_cons (snd_callV X Fk4 (ok_X4_sumRates l D ca) rfl rfl w_407 w_408 w_409 w_2 w_410 (by decide) (by decide) dX1_seek_22) ?_
    refine snd_cons (snd_aload_n X dX1_seek_25 rfl) ?_
    refine snd_cons (snd_getf X Fk1 3 (by decide) w_200 dX1_seek_26) ?_
    refine snd_cons (snd_iconst X dX1_seek_29 (by decide)) ?_
    refine snd_cons (snd_callJ X (ok_J7_fill_53178 l D ca) rfl rfl w_411 w_412 w_11 w_413 (by decide) (by decide) dX1_seek_30) ?_
    refine snd_cons (snd_aload_n X dX1_seek_33 rfl) ?_
    refine snd_cons (snd_iconst X dX1_seek_34 (by decide)) ?_
    refine snd_cons (snd_putz X Fk1 4 (by decide) rfl rfl w_201 dX1_seek_35) ?_
    refine snd_cons (snd_iconst X dX1_seek_38 (by decide)) ?_
    refine snd_cons (snd_istore_n X dX1_seek_39 rfl (by decide)) ?_
    refine snd_cons (snd_iload_n X dX1_seek_40 rfl) ?_
    refine snd_cons (snd_sipush X dX1_seek_41 (by decide)) ?_
    refine snd_cons (snd_icmp_gt X dX1_seek_44 (by decide)) ?_
    refine snd_cons (snd_aload_n X dX1_seek_47 rfl) ?_
    refine snd_cons (snd_getf X Fk1 4 (by decide) w_201 dX1_seek_48) ?_
    refine snd_cons (snd_if_ne X dX1_seek_51 (by decide)) ?_
    refine snd_cons (snd_aload_n X dX1_seek_54 rfl) ?_
    refine snd_cons (snd_getf X Fk1 1 (by decide) w_198 dX1_seek_55) ?_
    refine snd_cons (snd_iload_n X dX1_seek_58 rfl) ?_
    refine snd_cons (snd_aload_n X dX1_seek_59 rfl) ?_
    refine snd_cons (snd_getf X Fk1 0 (by decide) w_197 dX1_seek_60) ?_
    refine snd_cons (snd_callV X Fk4 (ok_X4_loopKey l D ca) rfl rfl w_414 w_415 w_416 w_2 w_417 (by decide) (by decide) dX1_seek_63) ?_
    refine snd_cons (snd_lastore X dX1_seek_66) ?_
    refine snd_cons (snd_aload_n X dX1_seek_67 rfl) ?_
    refine snd_cons (snd_getf X Fk1 2 (by decide) w_199 dX1_seek_68) ?_
    refine snd_cons (snd_iload_n X dX1_seek_71 rfl) ?_
    refine snd_cons (snd_aload_n X dX1_seek_72 rfl) ?_
    refine snd_cons (snd_getf X Fk1 0 (by decide) w_197 dX1_seek_73) ?_
    exact snd_nil
  refine snd_cons (snd_callV X Fk4 (ok_X4_snaps l D ca) rfl rfl w_419 w_274 w_275 w_2 w_276 (by decide) (by decide) dX1_seek_76) ?_
  refine snd_cons (snd_iastore X dX1_seek_79) ?_
  refine snd_cons (snd_aload_n X dX1_seek_80 rfl) ?_
  refine snd_cons (snd_iload_n X dX1_seek_81 rfl) ?_
  refine snd_cons (snd_callV X Fk1 (ok_X1_sameStepOrEnter l D ca) rfl rfl w_420 w_422 wp_1 w_7 w_423 (by decide) (by decide) dX1_seek_82) ?_
  refine snd_cons (snd_istore_n X dX1_seek_85 rfl (by decide)) ?_
  refine snd_cons (snd_iload_n X dX1_seek_86 rfl) ?_
  refine snd_cons (snd_iconst X dX1_seek_87 (by decide)) ?_
  refine snd_cons (snd_icmp_eq X dX1_seek_88 (by decide)) ?_
  refine snd_cons (snd_aload_n X dX1_seek_91 rfl) ?_
  refine snd_cons (snd_iconst X dX1_seek_92 (by decide)) ?_
  refine snd_cons (snd_putz X Fk1 4 (by decide) rfl rfl w_201 dX1_seek_93) ?_
  refine snd_cons (snd_aload_n X dX1_seek_96 rfl) ?_
  refine snd_cons (snd_iload_n X dX1_seek_97 rfl) ?_
  refine snd_cons (snd_puti X Fk1 5 (by decide) rfl rfl w_203 dX1_seek_98) ?_
  refine snd_cons (snd_aload_n X dX1_seek_101 rfl) ?_
  refine snd_cons (snd_iload_n X dX1_seek_102 rfl) ?_
  refine snd_cons (snd_iload_n X dX1_seek_103 rfl) ?_
  refine snd_cons (snd_isub X dX1_seek_104) ?_
  refine snd_cons (snd_puti X Fk1 6 (by decide) rfl rfl w_205 dX1_seek_105) ?_
  refine snd_cons (snd_aload_n X dX1_seek_108 rfl) ?_
  refine snd_cons (snd_aload_n X dX1_seek_109 rfl) ?_
  refine snd_cons (snd_getf X Fk1 2 (by decide) w_199 dX1_seek_110) ?_
  refine snd_cons (snd_iload_n X dX1_seek_113 rfl) ?_
  refine snd_cons (snd_iaload X dX1_seek_114) ?_
  refine snd_cons (snd_aload_n X dX1_seek_115 rfl) ?_
  refine snd_cons (snd_getf X Fk1 2 (by decide) w_199 dX1_seek_116) ?_
  refine snd_cons (snd_iload_n X dX1_seek_119 rfl) ?_
  refine snd_cons (snd_iaload X dX1_seek_120) ?_
  refine snd_cons (snd_isub X dX1_seek_121) ?_
  refine snd_cons (snd_puti X Fk1 7 (by decide) rfl rfl w_207 dX1_seek_122) ?_
  refine snd_cons (snd_aload_n X dX1_seek_125 rfl) ?_
  refine snd_cons (snd_getf X Fk1 0 (by decide) w_197 dX1_seek_126) ?_
  refine snd_cons (snd_callV X Fk4 (ok_X4_passTick l D ca) rfl rfl w_425 w_426 w_427 w_2 w_428 (by decide) (by decide) dX1_seek_129) ?_
  refine snd_cons (snd_pop X dX1_seek_132) ?_
  refine snd_cons (snd_iinc X dX1_seek_133 (by decide) (by decide)) ?_
  refine snd_cons (snd_goto X dX1_seek_136 (by decide)) ?_
  refine snd_cons (snd_vret X dX1_seek_139) ?_
  exact snd_nil
theorem k_X1_seek_0 (ca : Nat → ClassId) : k_X1_seek ca 0 = i_aload 0 1 := rfl
theorem k_X1_seek_1 (ca : Nat → ClassId) : k_X1_seek ca 1 = i_getf 1 0 4 := rfl
theorem k_X1_seek_4 (ca : Nat → ClassId) : k_X1_seek ca 4 = i_aload 1 5 := rfl
theorem k_X1_seek_5 (ca : Nat → ClassId) : k_X1_seek ca 5 = i_callV 4 1 0 0 0 0 (sp_X4_copyFrom ca) 8 := rfl
theorem k_X1_seek_8 (ca : Nat → ClassId) : k_X1_seek ca 8 = i_aload 0 9 := rfl
theorem k_X1_seek_9 (ca : Nat → ClassId) : k_X1_seek ca 9 = i_getf 1 0 12 := rfl
theorem k_X1_seek_12 (ca : Nat → ClassId) : k_X1_seek ca 12 = i_getf 4 1 15 := rfl
theorem k_X1_seek_15 (ca : Nat → ClassId) : k_X1_seek ca 15 = i_push (.int 0) 16 := rfl
theorem k_X1_seek_16 (ca : Nat → ClassId) : k_X1_seek ca 16 = i_push (.int 0) 17 := rfl
theorem k_X1_seek_17 (ca : Nat → ClassId) : k_X1_seek ca 17 = i_ast (fun x => x) (ca 0) 18 := rfl
theorem k_X1_seek_18 (ca : Nat → ClassId) : k_X1_seek ca 18 = i_aload 0 19 := rfl
theorem k_X1_seek_19 (ca : Nat → ClassId) : k_X1_seek ca 19 = i_getf 1 0 22 := rfl
theorem k_X1_seek_22 (ca : Nat → ClassId) : k_X1_seek ca 22 = i_callV 4 0 0 0 0 0 (sp_X4_sumRates ca) 25 := rfl
theorem k_X1_seek_25 (ca : Nat → ClassId) : k_X1_seek ca 25 = i_aload 0 26 := rfl
theorem k_X1_seek_26 (ca : Nat → ClassId) : k_X1_seek ca 26 = i_getf 1 3 29 := rfl
theorem k_X1_seek_29 (ca : Nat → ClassId) : k_X1_seek ca 29 = i_push (.int (-1)) 30 := rfl
theorem k_X1_seek_30 (ca : Nat → ClassId) : k_X1_seek ca 30 = i_callS 2 0 0 0 0 (sp_J7_fill_53178 ca) 33 := rfl
theorem k_X1_seek_33 (ca : Nat → ClassId) : k_X1_seek ca 33 = i_aload 0 34 := rfl
theorem k_X1_seek_34 (ca : Nat → ClassId) : k_X1_seek ca 34 = i_push (.int 0) 35 := rfl
theorem k_X1_seek_35 (ca : Nat → ClassId) : k_X1_seek ca 35 = i_putz 1 4 38 := rfl
theorem k_X1_seek_38 (ca : Nat → ClassId) : k_X1_seek ca 38 = i_push (.int 0) 39 := rfl
theorem k_X1_seek_39 (ca : Nat → ClassId) : k_X1_seek ca 39 = i_istore 2 40 := rfl
theorem k_X1_seek_40 (ca : Nat → ClassId) : k_X1_seek ca 40 = i_iload 2 41 := rfl
theorem k_X1_seek_41 (ca : Nat → ClassId) : k_X1_seek ca 41 = i_push (.int 1500) 44 := rfl
theorem k_X1_seek_44 (ca : Nat → ClassId) : k_X1_seek ca 44 = i_icmp (fun x y => y < x) 139 47 := rfl
theorem k_X1_seek_47 (ca : Nat → ClassId) : k_X1_seek ca 47 = i_aload 0 48 := rfl
theorem k_X1_seek_48 (ca : Nat → ClassId) : k_X1_seek ca 48 = i_getf 1 4 51 := rfl
theorem k_X1_seek_51 (ca : Nat → ClassId) : k_X1_seek ca 51 = i_if (fun x => ¬ x = 0) 139 54 := rfl
theorem k_X1_seek_54 (ca : Nat → ClassId) : k_X1_seek ca 54 = i_aload 0 55 := rfl
theorem k_X1_seek_55 (ca : Nat → ClassId) : k_X1_seek ca 55 = i_getf 1 1 58 := rfl
theorem k_X1_seek_58 (ca : Nat → ClassId) : k_X1_seek ca 58 = i_iload 2 59 := rfl
theorem k_X1_seek_59 (ca : Nat → ClassId) : k_X1_seek ca 59 = i_aload 0 60 := rfl
theorem k_X1_seek_60 (ca : Nat → ClassId) : k_X1_seek ca 60 = i_getf 1 0 63 := rfl
theorem k_X1_seek_63 (ca : Nat → ClassId) : k_X1_seek ca 63 = i_callV 4 0 0 0 0 0 (sp_X4_loopKey ca) 66 := rfl
theorem k_X1_seek_66 (ca : Nat → ClassId) : k_X1_seek ca 66 = i_last (ca 1) 67 := rfl
theorem k_X1_seek_67 (ca : Nat → ClassId) : k_X1_seek ca 67 = i_aload 0 68 := rfl
theorem k_X1_seek_68 (ca : Nat → ClassId) : k_X1_seek ca 68 = i_getf 1 2 71 := rfl
theorem k_X1_seek_71 (ca : Nat → ClassId) : k_X1_seek ca 71 = i_iload 2 72 := rfl
theorem k_X1_seek_72 (ca : Nat → ClassId) : k_X1_seek ca 72 = i_aload 0 73 := rfl
theorem k_X1_seek_73 (ca : Nat → ClassId) : k_X1_seek ca 73 = i_getf 1 0 76 := rfl
theorem k_X1_seek_76 (ca : Nat → ClassId) : k_X1_seek ca 76 = i_callV 4 0 0 0 0 0 (sp_X4_snaps ca) 79 := rfl
theorem k_X1_seek_79 (ca : Nat → ClassId) : k_X1_seek ca 79 = i_ast (fun x => x) (ca 0) 80 := rfl
theorem k_X1_seek_80 (ca : Nat → ClassId) : k_X1_seek ca 80 = i_aload 0 81 := rfl
theorem k_X1_seek_81 (ca : Nat → ClassId) : k_X1_seek ca 81 = i_iload 2 82 := rfl
theorem k_X1_seek_82 (ca : Nat → ClassId) : k_X1_seek ca 82 = i_callV 1 1 0 0 0 0 (sp_X1_sameStepOrEnter ca) 85 := rfl
theorem k_X1_seek_85 (ca : Nat → ClassId) : k_X1_seek ca 85 = i_istore 3 86 := rfl
theorem k_X1_seek_86 (ca : Nat → ClassId) : k_X1_seek ca 86 = i_iload 3 87 := rfl
theorem k_X1_seek_87 (ca : Nat → ClassId) : k_X1_seek ca 87 = i_push (.int (-1)) 88 := rfl
theorem k_X1_seek_88 (ca : Nat → ClassId) : k_X1_seek ca 88 = i_icmp (fun x y => x = y) 125 91 := rfl
theorem k_X1_seek_91 (ca : Nat → ClassId) : k_X1_seek ca 91 = i_aload 0 92 := rfl
theorem k_X1_seek_92 (ca : Nat → ClassId) : k_X1_seek ca 92 = i_push (.int 1) 93 := rfl
theorem k_X1_seek_93 (ca : Nat → ClassId) : k_X1_seek ca 93 = i_putz 1 4 96 := rfl
theorem k_X1_seek_96 (ca : Nat → ClassId) : k_X1_seek ca 96 = i_aload 0 97 := rfl
theorem k_X1_seek_97 (ca : Nat → ClassId) : k_X1_seek ca 97 = i_iload 3 98 := rfl
theorem k_X1_seek_98 (ca : Nat → ClassId) : k_X1_seek ca 98 = i_puti 1 5 101 := rfl
theorem k_X1_seek_101 (ca : Nat → ClassId) : k_X1_seek ca 101 = i_aload 0 102 := rfl
theorem k_X1_seek_102 (ca : Nat → ClassId) : k_X1_seek ca 102 = i_iload 2 103 := rfl
theorem k_X1_seek_103 (ca : Nat → ClassId) : k_X1_seek ca 103 = i_iload 3 104 := rfl
theorem k_X1_seek_104 (ca : Nat → ClassId) : k_X1_seek ca 104 = i_bin (fun x y => x - y) 105 := rfl
theorem k_X1_seek_105 (ca : Nat → ClassId) : k_X1_seek ca 105 = i_puti 1 6 108 := rfl
theorem k_X1_seek_108 (ca : Nat → ClassId) : k_X1_seek ca 108 = i_aload 0 109 := rfl
theorem k_X1_seek_109 (ca : Nat → ClassId) : k_X1_seek ca 109 = i_aload 0 110 := rfl
theorem k_X1_seek_110 (ca : Nat → ClassId) : k_X1_seek ca 110 = i_getf 1 2 113 := rfl
theorem k_X1_seek_113 (ca : Nat → ClassId) : k_X1_seek ca 113 = i_iload 2 114 := rfl
theorem k_X1_seek_114 (ca : Nat → ClassId) : k_X1_seek ca 114 = i_ald (ca 0) 115 := rfl
theorem k_X1_seek_115 (ca : Nat → ClassId) : k_X1_seek ca 115 = i_aload 0 116 := rfl
theorem k_X1_seek_116 (ca : Nat → ClassId) : k_X1_seek ca 116 = i_getf 1 2 119 := rfl
theorem k_X1_seek_119 (ca : Nat → ClassId) : k_X1_seek ca 119 = i_iload 3 120 := rfl
theorem k_X1_seek_120 (ca : Nat → ClassId) : k_X1_seek ca 120 = i_ald (ca 0) 121 := rfl
theorem k_X1_seek_121 (ca : Nat → ClassId) : k_X1_seek ca 121 = i_bin (fun x y => x - y) 122 := rfl
theorem k_X1_seek_122 (ca : Nat → ClassId) : k_X1_seek ca 122 = i_puti 1 7 125 := rfl
theorem k_X1_seek_125 (ca : Nat → ClassId) : k_X1_seek ca 125 = i_aload 0 126 := rfl
theorem k_X1_seek_126 (ca : Nat → ClassId) : k_X1_seek ca 126 = i_getf 1 0 129 := rfl
theorem k_X1_seek_129 (ca : Nat → ClassId) : k_X1_seek ca 129 = i_callV 4 0 0 0 0 0 (sp_X4_passTick ca) 132 := rfl
theorem k_X1_seek_132 (ca : Nat → ClassId) : k_X1_seek ca 132 = i_pop 133 := rfl
theorem k_X1_seek_133 (ca : Nat → ClassId) : k_X1_seek ca 133 = i_iinc 2 1 136 := rfl
theorem k_X1_seek_136 (ca : Nat → ClassId) : k_X1_seek ca 136 = i_goto 40 := rfl
theorem k_X1_seek_139 (ca : Nat → ClassId) : k_X1_seek ca 139 = i_vret := rfl
set_option maxHeartbeats 4000000 in
set_option maxRecDepth 20000 in
theorem ok_X1_seek (l : Launch) (D : va_G) (ca : Nat → ClassId) : OkAll l D ca yX1_seek cX1_seek 4 none 4 0 0 (sp_X1_seek ca) := by
  intro av h post hs
  obtain ⟨x4, tb, kx, sx, px, fo, le, pe, sn, b, s, rfl, ⟨j1, j2, j3, j4, j5, j6, j7, j8, j9, j10, j11, j12, j13⟩, hS, hbo, hW, ⟨e0, ⟨tt, hT⟩, ⟨kf, ek⟩, ⟨sf, es⟩, ⟨T, ep⟩⟩, hs⟩ := hs
  have j8' : ¬ kx = x4 := fun z => j8 z.symm
  have j9' : ¬ sx = x4 := fun z => j9 z.symm
  have j10' : ¬ px = x4 := fun z => j10 z.symm
  have j11' : ¬ sx = kx := fun z => j11 z.symm
  have j12' : ¬ px = kx := fun z => j12 z.symm
  have j13' : ¬ px = sx := fun z => j13 z.symm
  have e0' := e0
  unfold eLoop at e0'
  refine okM_of t_X1_seek (by decide +kernel) (c1_ref (c1_ref c1_nil)) (Nat.le_of_ble_eq_true rfl) ?_
  intro K go
  -- the loop
  have fin : ∀ H lv n, K 0 0 139 lv [] H → (∃ le' pe' sn', H x4 = some (eLoop (tb 0) kx sx px 1 le' pe' sn')) → lv = [some (.ref x4), some (.ref (b 0)), some (.int (nI (n + 1))), lget lv 3] → n ≤ 1500 → K 0 0 40 lv [] H := by
    intro H lv n k0 he hl hn
    obtain ⟨le', pe', sn', he⟩ := he
    unfold eLoop at he
    rw [hl] at k0 ⊢
    by_cases q : (1500 : Int32) < nI (n + 1)
    · refine goN go (stp [139]) 160 _ _ _ _ _ _ (fun F hF hF0 => ?_)
      simp only [hF, hF0, ite_not, i_push, i_iload, i_lload, i_aload, i_istore, i_astore, i_lstore, i_iinc, i_bin, i_dv, i_un, i_lbin, i_lsh, i_i2l, i_l2i, i_lcmp, i_dup, i_dup2, i_pop, i_if, i_icmp, i_goto, swG, i_sw, i_getf, i_puti, i_putz, i_putr, i_ald, i_lald, i_aald, i_ast, i_last, i_aast, i_alen, i_new, i_newi, i_newl, i_newq, i_oinit, i_ret, i_zret, i_lret, i_vret, catS, tk, rpush, isO, i_m1, i_m2, i_acopy, i_callV, i_callS, KRet, lget, lput, lputL, lcl0, isL, lv0, List.map_cons, List.map_nil, List.length_cons, List.length_nil, List.cons_append, List.nil_append, Nat.reduceAdd, Nat.reduceSub, Nat.reduceLeDiff, List.replicate_succ, List.replicate_zero, List.getElem?_cons_succ, List.getElem?_cons_zero, List.set_cons_succ, List.set_cons_zero, true_and, and_true, if_true, if_false, ↓reduceIte, Nat.le_refl, Value.category, va_up_app, eq_self, stp, Nat.reduceBEq, Bool.or_false, Bool.false_or, Bool.true_or, Bool.or_true, or_true, true_or, bx_uu, implies_true, true_implies, not_true, not_false_eq_true, false_implies, and_self, Nat.reduceLT, Int32.reduceAdd, Int32.reduceSub, Int32.reduceMul, Int32.reduceLE, Int32.reduceLT, Int32.reduceToNatClampNeg, va_rf_some, Bool.false_eq_true, k_X1_seek_0 ca, k_X1_seek_1 ca, k_X1_seek_4 ca, k_X1_seek_5 ca, k_X1_seek_8 ca, k_X1_seek_9 ca, k_X1_seek_12 ca, k_X1_seek_15 ca, k_X1_seek_16 ca, k_X1_seek_17 ca, k_X1_seek_18 ca, k_X1_seek_19 ca, k_X1_seek_22 ca, k_X1_seek_25 ca, k_X1_seek_26 ca, k_X1_seek_29 ca, k_X1_seek_30 ca, k_X1_seek_33 ca, k_X1_seek_34 ca, k_X1_seek_35 ca, k_X1_seek_38 ca, k_X1_seek_39 ca, k_X1_seek_40 ca, k_X1_seek_41 ca, k_X1_seek_44 ca, k_X1_seek_47 ca, k_X1_seek_48 ca, k_X1_seek_51 ca, k_X1_seek_54 ca, k_X1_seek_55 ca, k_X1_seek_58 ca, k_X1_seek_59 ca, k_X1_seek_60 ca, k_X1_seek_63 ca, k_X1_seek_66 ca, k_X1_seek_67 ca, k_X1_seek_68 ca, k_X1_seek_71 ca, k_X1_seek_72 ca, k_X1_seek_73 ca, k_X1_seek_76 ca, k_X1_seek_79 ca, k_X1_seek_80 ca, k_X1_seek_81 ca, k_X1_seek_82 ca, k_X1_seek_85 ca, k_X1_seek_86 ca, k_X1_seek_87 ca, k_X1_seek_88 ca, k_X1_seek_91 ca, k_X1_seek_92 ca, k_X1_seek_93 ca, k_X1_seek_96 ca, k_X1_seek_97 ca, k_X1_seek_98 ca, k_X1_seek_101 ca, k_X1_seek_102 ca, k_X1_seek_103 ca, k_X1_seek_104 ca, k_X1_seek_105 ca, k_X1_seek_108 ca, k_X1_seek_109 ca, k_X1_seek_110 ca, k_X1_seek_113 ca, k_X1_seek_114 ca, k_X1_seek_115 ca, k_X1_seek_116 ca, k_X1_seek_119 ca, k_X1_seek_120 ca, k_X1_seek_121 ca, k_X1_seek_122 ca, k_X1_seek_125 ca, k_X1_seek_126 ca, k_X1_seek_129 ca, k_X1_seek_132 ca, k_X1_seek_133 ca, k_X1_seek_136 ca, k_X1_seek_139 ca, q]
      try clear hF hF0 F
      exact k0
    · refine goN go (stp [139]) 160 _ _ _ _ _ _ (fun F hF hF0 => ?_)
      simp only [hF, hF0, ite_not, i_push, i_iload, i_lload, i_aload, i_istore, i_astore, i_lstore, i_iinc, i_bin, i_dv, i_un, i_lbin, i_lsh, i_i2l, i_l2i, i_lcmp, i_dup, i_dup2, i_pop, i_if, i_icmp, i_goto, swG, i_sw, i_getf, i_puti, i_putz, i_putr, i_ald, i_lald, i_aald, i_ast, i_last, i_aast, i_alen, i_new, i_newi, i_newl, i_newq, i_oinit, i_ret, i_zret, i_lret, i_vret, catS, tk, rpush, isO, i_m1, i_m2, i_acopy, i_callV, i_callS, KRet, lget, lput, lputL, lcl0, isL, lv0, List.map_cons, List.map_nil, List.length_cons, List.length_nil, List.cons_append, List.nil_append, Nat.reduceAdd, Nat.reduceSub, Nat.reduceLeDiff, List.replicate_succ, List.replicate_zero, List.getElem?_cons_succ, List.getElem?_cons_zero, List.set_cons_succ, List.set_cons_zero, true_and, and_true, if_true, if_false, ↓reduceIte, Nat.le_refl, Value.category, va_up_app, eq_self, stp, Nat.reduceBEq, Bool.or_false, Bool.false_or, Bool.true_or, Bool.or_true, or_true, true_or, bx_uu, implies_true, true_implies, not_true, not_false_eq_true, false_implies, and_self, Nat.reduceLT, Int32.reduceAdd, Int32.reduceSub, Int32.reduceMul, Int32.reduceLE, Int32.reduceLT, Int32.reduceToNatClampNeg, va_rf_some, Bool.false_eq_true, k_X1_seek_0 ca, k_X1_seek_1 ca, k_X1_seek_4 ca, k_X1_seek_5 ca, k_X1_seek_8 ca, k_X1_seek_9 ca, k_X1_seek_12 ca, k_X1_seek_15 ca, k_X1_seek_16 ca, k_X1_seek_17 ca, k_X1_seek_18 ca, k_X1_seek_19 ca, k_X1_seek_22 ca, k_X1_seek_25 ca, k_X1_seek_26 ca, k_X1_seek_29 ca, k_X1_seek_30 ca, k_X1_seek_33 ca, k_X1_seek_34 ca, k_X1_seek_35 ca, k_X1_seek_38 ca, k_X1_seek_39 ca, k_X1_seek_40 ca, k_X1_seek_41 ca, k_X1_seek_44 ca, k_X1_seek_47 ca, k_X1_seek_48 ca, k_X1_seek_51 ca, k_X1_seek_54 ca, k_X1_seek_55 ca, k_X1_seek_58 ca, k_X1_seek_59 ca, k_X1_seek_60 ca, k_X1_seek_63 ca, k_X1_seek_66 ca, k_X1_seek_67 ca, k_X1_seek_68 ca, k_X1_seek_71 ca, k_X1_seek_72 ca, k_X1_seek_73 ca, k_X1_seek_76 ca, k_X1_seek_79 ca, k_X1_seek_80 ca, k_X1_seek_81 ca, k_X1_seek_82 ca, k_X1_seek_85 ca, k_X1_seek_86 ca, k_X1_seek_87 ca, k_X1_seek_88 ca, k_X1_seek_91 ca, k_X1_seek_92 ca, k_X1_seek_93 ca, k_X1_seek_96 ca, k_X1_seek_97 ca, k_X1_seek_98 ca, k_X1_seek_101 ca, k_X1_seek_102 ca, k_X1_seek_103 ca, k_X1_seek_104 ca, k_X1_seek_105 ca, k_X1_seek_108 ca, k_X1_seek_109 ca, k_X1_seek_110 ca, k_X1_seek_113 ca, k_X1_seek_114 ca, k_X1_seek_115 ca, k_X1_seek_116 ca, k_X1_seek_119 ca, k_X1_seek_120 ca, k_X1_seek_121 ca, k_X1_seek_122 ca, k_X1_seek_125 ca, k_X1_seek_126 ca, k_X1_seek_129 ca, k_X1_seek_132 ca, k_X1_seek_133 ca, k_X1_seek_136 ca, k_X1_seek_139 ca, q, he, one0]
      try clear hF hF0 F
      exact k0
  have key : ∀ r i H kf sf T x3, i + r = 1501 → H x4 = some (eLoop (tb 0) kx sx px 0 le pe sn) → SAt ca H tb (lpD s i) → Ar H (tb 5) (ca 0) 3 (rts (lpS s)) → H kx = some (.inl (ca 1, 1501, .inr (.inl kf))) → H sx = some (.inl (ca 0, 1501, .inl sf)) → H px = some (.inl (ca 0, 4096, .inl T)) → (∀ j, j < i → kf j = kyQ s j) → (∀ j, j < i → sf j = sgQ s j) → TI T (kyQ s) i → (∀ a c, a < c → c < i → ¬ kyQ s a = kyQ s c) → SmL x4 tb kx sx px h H → K 0 0 40 [some (.ref x4), some (.ref (b 0)), some (.int (nI i)), x3] [] H := by
    intro r
    induction r with
    | zero =>
      intro i H kf sf T x3 hi a0 a1 a2 a3 a4 a5 a6 a7 a8 a9 a10
      have hi : i = 1501 := hi
      subst hi
      have e : nI 1501 = 1501 := rfl
      have k0 := hs H 0 le pe sn (Or.inr ⟨fun a c h1 h2 => a9 a c h1 (by omega), rfl⟩) ⟨a0, ⟨_, a1⟩, ⟨_, a3⟩, ⟨_, a4⟩, ⟨_, a5⟩⟩ a10
      refine goN go (stp []) 160 _ _ _ _ _ _ (fun F hF hF0 => ?_)
      simp only [hF, hF0, ite_not, i_push, i_iload, i_lload, i_aload, i_istore, i_astore, i_lstore, i_iinc, i_bin, i_dv, i_un, i_lbin, i_lsh, i_i2l, i_l2i, i_lcmp, i_dup, i_dup2, i_pop, i_if, i_icmp, i_goto, swG, i_sw, i_getf, i_puti, i_putz, i_putr, i_ald, i_lald, i_aald, i_ast, i_last, i_aast, i_alen, i_new, i_newi, i_newl, i_newq, i_oinit, i_ret, i_zret, i_lret, i_vret, catS, tk, rpush, isO, i_m1, i_m2, i_acopy, i_callV, i_callS, KRet, lget, lput, lputL, lcl0, isL, lv0, List.map_cons, List.map_nil, List.length_cons, List.length_nil, List.cons_append, List.nil_append, Nat.reduceAdd, Nat.reduceSub, Nat.reduceLeDiff, List.replicate_succ, List.replicate_zero, List.getElem?_cons_succ, List.getElem?_cons_zero, List.set_cons_succ, List.set_cons_zero, true_and, and_true, if_true, if_false, ↓reduceIte, Nat.le_refl, Value.category, va_up_app, eq_self, stp, Nat.reduceBEq, Bool.or_false, Bool.false_or, Bool.true_or, Bool.or_true, or_true, true_or, bx_uu, implies_true, true_implies, not_true, not_false_eq_true, false_implies, and_self, Nat.reduceLT, Int32.reduceAdd, Int32.reduceSub, Int32.reduceMul, Int32.reduceLE, Int32.reduceLT, Int32.reduceToNatClampNeg, va_rf_some, Bool.false_eq_true, k_X1_seek_0 ca, k_X1_seek_1 ca, k_X1_seek_4 ca, k_X1_seek_5 ca, k_X1_seek_8 ca, k_X1_seek_9 ca, k_X1_seek_12 ca, k_X1_seek_15 ca, k_X1_seek_16 ca, k_X1_seek_17 ca, k_X1_seek_18 ca, k_X1_seek_19 ca, k_X1_seek_22 ca, k_X1_seek_25 ca, k_X1_seek_26 ca, k_X1_seek_29 ca, k_X1_seek_30 ca, k_X1_seek_33 ca, k_X1_seek_34 ca, k_X1_seek_35 ca, k_X1_seek_38 ca, k_X1_seek_39 ca, k_X1_seek_40 ca, k_X1_seek_41 ca, k_X1_seek_44 ca, k_X1_seek_47 ca, k_X1_seek_48 ca, k_X1_seek_51 ca, k_X1_seek_54 ca, k_X1_seek_55 ca, k_X1_seek_58 ca, k_X1_seek_59 ca, k_X1_seek_60 ca, k_X1_seek_63 ca, k_X1_seek_66 ca, k_X1_seek_67 ca, k_X1_seek_68 ca, k_X1_seek_71 ca, k_X1_seek_72 ca, k_X1_seek_73 ca, k_X1_seek_76 ca, k_X1_seek_79 ca, k_X1_seek_80 ca, k_X1_seek_81 ca, k_X1_seek_82 ca, k_X1_seek_85 ca, k_X1_seek_86 ca, k_X1_seek_87 ca, k_X1_seek_88 ca, k_X1_seek_91 ca, k_X1_seek_92 ca, k_X1_seek_93 ca, k_X1_seek_96 ca, k_X1_seek_97 ca, k_X1_seek_98 ca, k_X1_seek_101 ca, k_X1_seek_102 ca, k_X1_seek_103 ca, k_X1_seek_104 ca, k_X1_seek_105 ca, k_X1_seek_108 ca, k_X1_seek_109 ca, k_X1_seek_110 ca, k_X1_seek_113 ca, k_X1_seek_114 ca, k_X1_seek_115 ca, k_X1_seek_116 ca, k_X1_seek_119 ca, k_X1_seek_120 ca, k_X1_seek_121 ca, k_X1_seek_122 ca, k_X1_seek_125 ca, k_X1_seek_126 ca, k_X1_seek_129 ca, k_X1_seek_132 ca, k_X1_seek_133 ca, k_X1_seek_136 ca, k_X1_seek_139 ca, e]
      try clear hF hF0 F
      exact k0
    | succ r ih =>
      intro i H kf sf T x3 hi a0 a1 a2 a3 a4 a5 a6 a7 a8 a9 a10
      have a0' := a0
      unfold eLoop at a0'
      have g1 : ((1500 : Int32) < nI i) = False := eq_false (nI_nlt (a := 1500) (by omega) (by omega))
      have vn : vp_in (nI i) 1501 := vp_in_nI (by omega) (by decide)
      have xn : (nI i).toNatClampNeg = i := nI_clamp (by omega)
      have a1c := a1.c.1
      refine goN go (stp [66]) 160 _ _ _ _ _ _ (fun F hF hF0 => ?_)
      simp only [hF, hF0, ite_not, i_push, i_iload, i_lload, i_aload, i_istore, i_astore, i_lstore, i_iinc, i_bin, i_dv, i_un, i_lbin, i_lsh, i_i2l, i_l2i, i_lcmp, i_dup, i_dup2, i_pop, i_if, i_icmp, i_goto, swG, i_sw, i_getf, i_puti, i_putz, i_putr, i_ald, i_lald, i_aald, i_ast, i_last, i_aast, i_alen, i_new, i_newi, i_newl, i_newq, i_oinit, i_ret, i_zret, i_lret, i_vret, catS, tk, rpush, isO, i_m1, i_m2, i_acopy, i_callV, i_callS, KRet, lget, lput, lputL, lcl0, isL, lv0, List.map_cons, List.map_nil, List.length_cons, List.length_nil, List.cons_append, List.nil_append, Nat.reduceAdd, Nat.reduceSub, Nat.reduceLeDiff, List.replicate_succ, List.replicate_zero, List.getElem?_cons_succ, List.getElem?_cons_zero, List.set_cons_succ, List.set_cons_zero, true_and, and_true, if_true, if_false, ↓reduceIte, Nat.le_refl, Value.category, va_up_app, eq_self, stp, Nat.reduceBEq, Bool.or_false, Bool.false_or, Bool.true_or, Bool.or_true, or_true, true_or, bx_uu, implies_true, true_implies, not_true, not_false_eq_true, false_implies, and_self, Nat.reduceLT, Int32.reduceAdd, Int32.reduceSub, Int32.reduceMul, Int32.reduceLE, Int32.reduceLT, Int32.reduceToNatClampNeg, va_rf_some, Bool.false_eq_true, k_X1_seek_0 ca, k_X1_seek_1 ca, k_X1_seek_4 ca, k_X1_seek_5 ca, k_X1_seek_8 ca, k_X1_seek_9 ca, k_X1_seek_12 ca, k_X1_seek_15 ca, k_X1_seek_16 ca, k_X1_seek_17 ca, k_X1_seek_18 ca, k_X1_seek_19 ca, k_X1_seek_22 ca, k_X1_seek_25 ca, k_X1_seek_26 ca, k_X1_seek_29 ca, k_X1_seek_30 ca, k_X1_seek_33 ca, k_X1_seek_34 ca, k_X1_seek_35 ca, k_X1_seek_38 ca, k_X1_seek_39 ca, k_X1_seek_40 ca, k_X1_seek_41 ca, k_X1_seek_44 ca, k_X1_seek_47 ca, k_X1_seek_48 ca, k_X1_seek_51 ca, k_X1_seek_54 ca, k_X1_seek_55 ca, k_X1_seek_58 ca, k_X1_seek_59 ca, k_X1_seek_60 ca, k_X1_seek_63 ca, k_X1_seek_66 ca, k_X1_seek_67 ca, k_X1_seek_68 ca, k_X1_seek_71 ca, k_X1_seek_72 ca, k_X1_seek_73 ca, k_X1_seek_76 ca, k_X1_seek_79 ca, k_X1_seek_80 ca, k_X1_seek_81 ca, k_X1_seek_82 ca, k_X1_seek_85 ca, k_X1_seek_86 ca, k_X1_seek_87 ca, k_X1_seek_88 ca, k_X1_seek_91 ca, k_X1_seek_92 ca, k_X1_seek_93 ca, k_X1_seek_96 ca, k_X1_seek_97 ca, k_X1_seek_98 ca, k_X1_seek_101 ca, k_X1_seek_102 ca, k_X1_seek_103 ca, k_X1_seek_104 ca, k_X1_seek_105 ca, k_X1_seek_108 ca, k_X1_seek_109 ca, k_X1_seek_110 ca, k_X1_seek_113 ca, k_X1_seek_114 ca, k_X1_seek_115 ca, k_X1_seek_116 ca, k_X1_seek_119 ca, k_X1_seek_120 ca, k_X1_seek_121 ca, k_X1_seek_122 ca, k_X1_seek_125 ca, k_X1_seek_126 ca, k_X1_seek_129 ca, k_X1_seek_132 ca, k_X1_seek_133 ca, k_X1_seek_136 ca, k_X1_seek_139 ca, g1, a0', a1c]
      try clear hF hF0 F
      refine ⟨tb, lpD s i, rfl, a1, ?_⟩
      rw [show kyS (lpD s i) = kyQ s i from rfl]
      have b1 : SAt ca (va_up H kx (some (.inl (ca 1, 1501, .inr (.inl (vp_updL kf i (kyQ s i))))))) tb (lpD s i) := SAt_kept a1 (fun n hn => va_up_ne _ _ (fun z => j5 n hn z.symm))
      have b1c := a1c
      have d0 : (tb 0 = kx) = False := eq_false (fun z => j5 0 (by decide) z.symm)
      refine goN go (stp [79]) 160 _ _ _ _ _ _ (fun F hF hF0 => ?_)
      simp only [hF, hF0, ite_not, i_push, i_iload, i_lload, i_aload, i_istore, i_astore, i_lstore, i_iinc, i_bin, i_dv, i_un, i_lbin, i_lsh, i_i2l, i_l2i, i_lcmp, i_dup, i_dup2, i_pop, i_if, i_icmp, i_goto, swG, i_sw, i_getf, i_puti, i_putz, i_putr, i_ald, i_lald, i_aald, i_ast, i_last, i_aast, i_alen, i_new, i_newi, i_newl, i_newq, i_oinit, i_ret, i_zret, i_lret, i_vret, catS, tk, rpush, isO, i_m1, i_m2, i_acopy, i_callV, i_callS, KRet, lget, lput, lputL, lcl0, isL, lv0, List.map_cons, List.map_nil, List.length_cons, List.length_nil, List.cons_append, List.nil_append, Nat.reduceAdd, Nat.reduceSub, Nat.reduceLeDiff, List.replicate_succ, List.replicate_zero, List.getElem?_cons_succ, List.getElem?_cons_zero, List.set_cons_succ, List.set_cons_zero, true_and, and_true, if_true, if_false, ↓reduceIte, Nat.le_refl, Value.category, va_up_app, eq_self, stp, Nat.reduceBEq, Bool.or_false, Bool.false_or, Bool.true_or, Bool.or_true, or_true, true_or, bx_uu, implies_true, true_implies, not_true, not_false_eq_true, false_implies, and_self, Nat.reduceLT, Int32.reduceAdd, Int32.reduceSub, Int32.reduceMul, Int32.reduceLE, Int32.reduceLT, Int32.reduceToNatClampNeg, va_rf_some, Bool.false_eq_true, k_X1_seek_0 ca, k_X1_seek_1 ca, k_X1_seek_4 ca, k_X1_seek_5 ca, k_X1_seek_8 ca, k_X1_seek_9 ca, k_X1_seek_12 ca, k_X1_seek_15 ca, k_X1_seek_16 ca, k_X1_seek_17 ca, k_X1_seek_18 ca, k_X1_seek_19 ca, k_X1_seek_22 ca, k_X1_seek_25 ca, k_X1_seek_26 ca, k_X1_seek_29 ca, k_X1_seek_30 ca, k_X1_seek_33 ca, k_X1_seek_34 ca, k_X1_seek_35 ca, k_X1_seek_38 ca, k_X1_seek_39 ca, k_X1_seek_40 ca, k_X1_seek_41 ca, k_X1_seek_44 ca, k_X1_seek_47 ca, k_X1_seek_48 ca, k_X1_seek_51 ca, k_X1_seek_54 ca, k_X1_seek_55 ca, k_X1_seek_58 ca, k_X1_seek_59 ca, k_X1_seek_60 ca, k_X1_seek_63 ca, k_X1_seek_66 ca, k_X1_seek_67 ca, k_X1_seek_68 ca, k_X1_seek_71 ca, k_X1_seek_72 ca, k_X1_seek_73 ca, k_X1_seek_76 ca, k_X1_seek_79 ca, k_X1_seek_80 ca, k_X1_seek_81 ca, k_X1_seek_82 ca, k_X1_seek_85 ca, k_X1_seek_86 ca, k_X1_seek_87 ca, k_X1_seek_88 ca, k_X1_seek_91 ca, k_X1_seek_92 ca, k_X1_seek_93 ca, k_X1_seek_96 ca, k_X1_seek_97 ca, k_X1_seek_98 ca, k_X1_seek_101 ca, k_X1_seek_102 ca, k_X1_seek_103 ca, k_X1_seek_104 ca, k_X1_seek_105 ca, k_X1_seek_108 ca, k_X1_seek_109 ca, k_X1_seek_110 ca, k_X1_seek_113 ca, k_X1_seek_114 ca, k_X1_seek_115 ca, k_X1_seek_116 ca, k_X1_seek_119 ca, k_X1_seek_120 ca, k_X1_seek_121 ca, k_X1_seek_122 ca, k_X1_seek_125 ca, k_X1_seek_126 ca, k_X1_seek_129 ca, k_X1_seek_132 ca, k_X1_seek_133 ca, k_X1_seek_136 ca, k_X1_seek_139 ca, a0', a3, vn, xn, j8, d0, a1c]
      try clear hF hF0 F
      refine ⟨tb, lpD s i, rfl, b1, ?_⟩
      rw [show 0 + lpD s i 16 + lpD s i 48 + lpD s i 80 = sgQ s i from rfl]
      have c0 : va_up (va_up H kx (some (.inl (ca 1, 1501, .inr (.inl (vp_updL kf i (kyQ s i))))))) sx (some (.inl (ca 0, 1501, .inl (upd sf i (sgQ s i))))) x4 = some (eLoop (tb 0) kx sx px 0 le pe sn) := (va_up_ne _ _ j9).trans ((va_up_ne _ _ j8).trans a0)
      have c1 : SAt ca (va_up (va_up H kx (some (.inl (ca 1, 1501, .inr (.inl (vp_updL kf i (kyQ s i))))))) sx (some (.inl (ca 0, 1501, .inl (upd sf i (sgQ s i)))))) tb (lpD s i) := SAt_kept b1 (fun n hn => va_up_ne _ _ (fun z => j6 n hn z.symm))
      have c2 : Ar (va_up (va_up H kx (some (.inl (ca 1, 1501, .inr (.inl (vp_updL kf i (kyQ s i))))))) sx (some (.inl (ca 0, 1501, .inl (upd sf i (sgQ s i)))))) (tb 5) (ca 0) 3 (rts (lpS s)) := Ar_ne (Ar_ne a2 (fun z => j5 5 (by decide) z.symm)) (fun z => j6 5 (by decide) z.symm)
      have c3 : va_up (va_up H kx (some (.inl (ca 1, 1501, .inr (.inl (vp_updL kf i (kyQ s i))))))) sx (some (.inl (ca 0, 1501, .inl (upd sf i (sgQ s i))))) kx = some (.inl (ca 1, 1501, .inr (.inl (vp_updL kf i (kyQ s i))))) := (va_up_ne _ _ j11).trans (va_up_self _ _ _)
      have c4 : va_up (va_up H kx (some (.inl (ca 1, 1501, .inr (.inl (vp_updL kf i (kyQ s i))))))) sx (some (.inl (ca 0, 1501, .inl (upd sf i (sgQ s i))))) sx = some (.inl (ca 0, 1501, .inl (upd sf i (sgQ s i)))) := va_up_self _ _ _
      have c5 : va_up (va_up H kx (some (.inl (ca 1, 1501, .inr (.inl (vp_updL kf i (kyQ s i))))))) sx (some (.inl (ca 0, 1501, .inl (upd sf i (sgQ s i))))) px = some (.inl (ca 0, 4096, .inl T)) := (va_up_ne _ _ j13').trans ((va_up_ne _ _ j12').trans a5)
      have c10 : SmL x4 tb kx sx px h (va_up (va_up H kx (some (.inl (ca 1, 1501, .inr (.inl (vp_updL kf i (kyQ s i))))))) sx (some (.inl (ca 0, 1501, .inl (upd sf i (sgQ s i)))))) := a10.tr (fun z z1 z2 z3 z4 z5 => (va_up_ne _ _ z4).trans (va_up_ne _ _ z3))
      have c6 := updL_lt (g := kyQ s) a6 rfl
      have c7 := upd_lt (g := sgQ s) a7 rfl
      refine goN go (stp [85]) 160 _ _ _ _ _ _ (fun F hF hF0 => ?_)
      simp only [hF, hF0, ite_not, i_push, i_iload, i_lload, i_aload, i_istore, i_astore, i_lstore, i_iinc, i_bin, i_dv, i_un, i_lbin, i_lsh, i_i2l, i_l2i, i_lcmp, i_dup, i_dup2, i_pop, i_if, i_icmp, i_goto, swG, i_sw, i_getf, i_puti, i_putz, i_putr, i_ald, i_lald, i_aald, i_ast, i_last, i_aast, i_alen, i_new, i_newi, i_newl, i_newq, i_oinit, i_ret, i_zret, i_lret, i_vret, catS, tk, rpush, isO, i_m1, i_m2, i_acopy, i_callV, i_callS, KRet, lget, lput, lputL, lcl0, isL, lv0, List.map_cons, List.map_nil, List.length_cons, List.length_nil, List.cons_append, List.nil_append, Nat.reduceAdd, Nat.reduceSub, Nat.reduceLeDiff, List.replicate_succ, List.replicate_zero, List.getElem?_cons_succ, List.getElem?_cons_zero, List.set_cons_succ, List.set_cons_zero, true_and, and_true, if_true, if_false, ↓reduceIte, Nat.le_refl, Value.category, va_up_app, eq_self, stp, Nat.reduceBEq, Bool.or_false, Bool.false_or, Bool.true_or, Bool.or_true, or_true, true_or, bx_uu, implies_true, true_implies, not_true, not_false_eq_true, false_implies, and_self, Nat.reduceLT, Int32.reduceAdd, Int32.reduceSub, Int32.reduceMul, Int32.reduceLE, Int32.reduceLT, Int32.reduceToNatClampNeg, va_rf_some, Bool.false_eq_true, k_X1_seek_0 ca, k_X1_seek_1 ca, k_X1_seek_4 ca, k_X1_seek_5 ca, k_X1_seek_8 ca, k_X1_seek_9 ca, k_X1_seek_12 ca, k_X1_seek_15 ca, k_X1_seek_16 ca, k_X1_seek_17 ca, k_X1_seek_18 ca, k_X1_seek_19 ca, k_X1_seek_22 ca, k_X1_seek_25 ca, k_X1_seek_26 ca, k_X1_seek_29 ca, k_X1_seek_30 ca, k_X1_seek_33 ca, k_X1_seek_34 ca, k_X1_seek_35 ca, k_X1_seek_38 ca, k_X1_seek_39 ca, k_X1_seek_40 ca, k_X1_seek_41 ca, k_X1_seek_44 ca, k_X1_seek_47 ca, k_X1_seek_48 ca, k_X1_seek_51 ca, k_X1_seek_54 ca, k_X1_seek_55 ca, k_X1_seek_58 ca, k_X1_seek_59 ca, k_X1_seek_60 ca, k_X1_seek_63 ca, k_X1_seek_66 ca, k_X1_seek_67 ca, k_X1_seek_68 ca, k_X1_seek_71 ca, k_X1_seek_72 ca, k_X1_seek_73 ca, k_X1_seek_76 ca, k_X1_seek_79 ca, k_X1_seek_80 ca, k_X1_seek_81 ca, k_X1_seek_82 ca, k_X1_seek_85 ca, k_X1_seek_86 ca, k_X1_seek_87 ca, k_X1_seek_88 ca, k_X1_seek_91 ca, k_X1_seek_92 ca, k_X1_seek_93 ca, k_X1_seek_96 ca, k_X1_seek_97 ca, k_X1_seek_98 ca, k_X1_seek_101 ca, k_X1_seek_102 ca, k_X1_seek_103 ca, k_X1_seek_104 ca, k_X1_seek_105 ca, k_X1_seek_108 ca, k_X1_seek_109 ca, k_X1_seek_110 ca, k_X1_seek_113 ca, k_X1_seek_114 ca, k_X1_seek_115 ca, k_X1_seek_116 ca, k_X1_seek_119 ca, k_X1_seek_120 ca, k_X1_seek_121 ca, k_X1_seek_122 ca, k_X1_seek_125 ca, k_X1_seek_126 ca, k_X1_seek_129 ca, k_X1_seek_132 ca, k_X1_seek_133 ca, k_X1_seek_136 ca, k_X1_seek_139 ca, a0', a4, vn, xn, j8, j9, j11', d0, a1c]
      try clear hF hF0 F
      generalize va_up (va_up H kx (some (.inl (ca 1, 1501, .inr (.inl (vp_updL kf i (kyQ s i))))))) sx (some (.inl (ca 0, 1501, .inl (upd sf i (sgQ s i))))) = G at *
      generalize vp_updL kf i (kyQ s i) = kg at *
      generalize upd sf i (sgQ s i) = sg at *
      have c0' := c0
      unfold eLoop at c0'
      refine ⟨x4, tb 0, kx, sx, px, 0, le, pe, sn, kg, T, kyQ s, i, rfl, c0, c3, c5, by omega, fun j hj => c6 j (by omega), a8, fun j hj hk => ?_, fun hno T' hT' => ?_⟩
      · have zj : (nI j = -1) = False := eq_false (m1_ne (by omega))
        have vj : vp_in (nI j) 1501 := vp_in_nI (by omega) (by decide)
        have xj : (nI j).toNatClampNeg = j := nI_clamp (by omega)
        have w1 := c7 i (by omega)
        have w2 := c7 j (by omega)
        have ss := sub_nI (a := i) (b := j) (by omega)
        have d1 : SAt ca (va_up G x4 (some (eLoop (tb 0) kx sx px 1 (nI j) (nI (i - j)) (sgQ s i - sgQ s j)))) tb (lpD s i) := SAt_kept c1 (fun n hn => va_up_ne _ _ (fun z => j4 n hn z.symm))
        have d2 := Ar_ne (e := some (eLoop (tb 0) kx sx px 1 (nI j) (nI (i - j)) (sgQ s i - sgQ s j))) c2 (fun z => j4 5 (by decide) z.symm)
        have d1c := d1.c.1
        unfold eLoop at d1c
        have k0 : ∀ h', SAt ca h' tb (tkS (lpD s i) (rts (lpS s))) → Same tb (va_up G x4 (some (eLoop (tb 0) kx sx px 1 (nI j) (nI (i - j)) (sgQ s i - sgQ s j)))) h' → K 0 0 132 [some (.ref x4), some (.ref (b 0)), some (.int (nI i)), some (.int (nI j))] [.int (tkN (lpD s i) (rts (lpS s)))] h' := by
          intro h' p1 p2
          have f0 : h' x4 = some (eLoop (tb 0) kx sx px 1 (nI j) (nI (i - j)) (sgQ s i - sgQ s j)) := (p2 x4 j4).trans (va_up_self _ _ _)
          have k1 := hs h' _ _ _ _ (Or.inl ⟨i, j, by omega, hj, hk, a9, rfl, rfl, rfl, rfl⟩) ⟨f0, ⟨_, p1⟩, ⟨_, (p2 kx j5).trans ((va_up_ne _ _ j8').trans c3)⟩, ⟨_, (p2 sx j6).trans ((va_up_ne _ _ j9').trans c4)⟩, ⟨_, (p2 px j7).trans ((va_up_ne _ _ j10').trans c5)⟩⟩ (c10.tr (fun z z1 z2 z3 z4 z5 => (p2 z z2).trans (va_up_ne _ _ z1)))
          have k2 : K 0 0 139 [some (.ref x4), some (.ref (b 0)), some (.int (nI (i + 1))), some (.int (nI j))] [] h' := by
            refine goN go (stp []) 160 _ _ _ _ _ _ (fun F hF hF0 => ?_)
            simp only [hF, hF0, ite_not, i_push, i_iload, i_lload, i_aload, i_istore, i_astore, i_lstore, i_iinc, i_bin, i_dv, i_un, i_lbin, i_lsh, i_i2l, i_l2i, i_lcmp, i_dup, i_dup2, i_pop, i_if, i_icmp, i_goto, swG, i_sw, i_getf, i_puti, i_putz, i_putr, i_ald, i_lald, i_aald, i_ast, i_last, i_aast, i_alen, i_new, i_newi, i_newl, i_newq, i_oinit, i_ret, i_zret, i_lret, i_vret, catS, tk, rpush, isO, i_m1, i_m2, i_acopy, i_callV, i_callS, KRet, lget, lput, lputL, lcl0, isL, lv0, List.map_cons, List.map_nil, List.length_cons, List.length_nil, List.cons_append, List.nil_append, Nat.reduceAdd, Nat.reduceSub, Nat.reduceLeDiff, List.replicate_succ, List.replicate_zero, List.getElem?_cons_succ, List.getElem?_cons_zero, List.set_cons_succ, List.set_cons_zero, true_and, and_true, if_true, if_false, ↓reduceIte, Nat.le_refl, Value.category, va_up_app, eq_self, stp, Nat.reduceBEq, Bool.or_false, Bool.false_or, Bool.true_or, Bool.or_true, or_true, true_or, bx_uu, implies_true, true_implies, not_true, not_false_eq_true, false_implies, and_self, Nat.reduceLT, Int32.reduceAdd, Int32.reduceSub, Int32.reduceMul, Int32.reduceLE, Int32.reduceLT, Int32.reduceToNatClampNeg, va_rf_some, Bool.false_eq_true, k_X1_seek_0 ca, k_X1_seek_1 ca, k_X1_seek_4 ca, k_X1_seek_5 ca, k_X1_seek_8 ca, k_X1_seek_9 ca, k_X1_seek_12 ca, k_X1_seek_15 ca, k_X1_seek_16 ca, k_X1_seek_17 ca, k_X1_seek_18 ca, k_X1_seek_19 ca, k_X1_seek_22 ca, k_X1_seek_25 ca, k_X1_seek_26 ca, k_X1_seek_29 ca, k_X1_seek_30 ca, k_X1_seek_33 ca, k_X1_seek_34 ca, k_X1_seek_35 ca, k_X1_seek_38 ca, k_X1_seek_39 ca, k_X1_seek_40 ca, k_X1_seek_41 ca, k_X1_seek_44 ca, k_X1_seek_47 ca, k_X1_seek_48 ca, k_X1_seek_51 ca, k_X1_seek_54 ca, k_X1_seek_55 ca, k_X1_seek_58 ca, k_X1_seek_59 ca, k_X1_seek_60 ca, k_X1_seek_63 ca, k_X1_seek_66 ca, k_X1_seek_67 ca, k_X1_seek_68 ca, k_X1_seek_71 ca, k_X1_seek_72 ca, k_X1_seek_73 ca, k_X1_seek_76 ca, k_X1_seek_79 ca, k_X1_seek_80 ca, k_X1_seek_81 ca, k_X1_seek_82 ca, k_X1_seek_85 ca, k_X1_seek_86 ca, k_X1_seek_87 ca, k_X1_seek_88 ca, k_X1_seek_91 ca, k_X1_seek_92 ca, k_X1_seek_93 ca, k_X1_seek_96 ca, k_X1_seek_97 ca, k_X1_seek_98 ca, k_X1_seek_101 ca, k_X1_seek_102 ca, k_X1_seek_103 ca, k_X1_seek_104 ca, k_X1_seek_105 ca, k_X1_seek_108 ca, k_X1_seek_109 ca, k_X1_seek_110 ca, k_X1_seek_113 ca, k_X1_seek_114 ca, k_X1_seek_115 ca, k_X1_seek_116 ca, k_X1_seek_119 ca, k_X1_seek_120 ca, k_X1_seek_121 ca, k_X1_seek_122 ca, k_X1_seek_125 ca, k_X1_seek_126 ca, k_X1_seek_129 ca, k_X1_seek_132 ca, k_X1_seek_133 ca, k_X1_seek_136 ca, k_X1_seek_139 ca]
            try clear hF hF0 F
            exact k1
          have k3 := fin h' _ i k2 ⟨_, _, _, f0⟩ rfl (by omega)
          refine goN go (stp [40]) 160 _ _ _ _ _ _ (fun F hF hF0 => ?_)
          simp only [hF, hF0, ite_not, i_push, i_iload, i_lload, i_aload, i_istore, i_astore, i_lstore, i_iinc, i_bin, i_dv, i_un, i_lbin, i_lsh, i_i2l, i_l2i, i_lcmp, i_dup, i_dup2, i_pop, i_if, i_icmp, i_goto, swG, i_sw, i_getf, i_puti, i_putz, i_putr, i_ald, i_lald, i_aald, i_ast, i_last, i_aast, i_alen, i_new, i_newi, i_newl, i_newq, i_oinit, i_ret, i_zret, i_lret, i_vret, catS, tk, rpush, isO, i_m1, i_m2, i_acopy, i_callV, i_callS, KRet, lget, lput, lputL, lcl0, isL, lv0, List.map_cons, List.map_nil, List.length_cons, List.length_nil, List.cons_append, List.nil_append, Nat.reduceAdd, Nat.reduceSub, Nat.reduceLeDiff, List.replicate_succ, List.replicate_zero, List.getElem?_cons_succ, List.getElem?_cons_zero, List.set_cons_succ, List.set_cons_zero, true_and, and_true, if_true, if_false, ↓reduceIte, Nat.le_refl, Value.category, va_up_app, eq_self, stp, Nat.reduceBEq, Bool.or_false, Bool.false_or, Bool.true_or, Bool.or_true, or_true, true_or, bx_uu, implies_true, true_implies, not_true, not_false_eq_true, false_implies, and_self, Nat.reduceLT, Int32.reduceAdd, Int32.reduceSub, Int32.reduceMul, Int32.reduceLE, Int32.reduceLT, Int32.reduceToNatClampNeg, va_rf_some, Bool.false_eq_true, k_X1_seek_0 ca, k_X1_seek_1 ca, k_X1_seek_4 ca, k_X1_seek_5 ca, k_X1_seek_8 ca, k_X1_seek_9 ca, k_X1_seek_12 ca, k_X1_seek_15 ca, k_X1_seek_16 ca, k_X1_seek_17 ca, k_X1_seek_18 ca, k_X1_seek_19 ca, k_X1_seek_22 ca, k_X1_seek_25 ca, k_X1_seek_26 ca, k_X1_seek_29 ca, k_X1_seek_30 ca, k_X1_seek_33 ca, k_X1_seek_34 ca, k_X1_seek_35 ca, k_X1_seek_38 ca, k_X1_seek_39 ca, k_X1_seek_40 ca, k_X1_seek_41 ca, k_X1_seek_44 ca, k_X1_seek_47 ca, k_X1_seek_48 ca, k_X1_seek_51 ca, k_X1_seek_54 ca, k_X1_seek_55 ca, k_X1_seek_58 ca, k_X1_seek_59 ca, k_X1_seek_60 ca, k_X1_seek_63 ca, k_X1_seek_66 ca, k_X1_seek_67 ca, k_X1_seek_68 ca, k_X1_seek_71 ca, k_X1_seek_72 ca, k_X1_seek_73 ca, k_X1_seek_76 ca, k_X1_seek_79 ca, k_X1_seek_80 ca, k_X1_seek_81 ca, k_X1_seek_82 ca, k_X1_seek_85 ca, k_X1_seek_86 ca, k_X1_seek_87 ca, k_X1_seek_88 ca, k_X1_seek_91 ca, k_X1_seek_92 ca, k_X1_seek_93 ca, k_X1_seek_96 ca, k_X1_seek_97 ca, k_X1_seek_98 ca, k_X1_seek_101 ca, k_X1_seek_102 ca, k_X1_seek_103 ca, k_X1_seek_104 ca, k_X1_seek_105 ca, k_X1_seek_108 ca, k_X1_seek_109 ca, k_X1_seek_110 ca, k_X1_seek_113 ca, k_X1_seek_114 ca, k_X1_seek_115 ca, k_X1_seek_116 ca, k_X1_seek_119 ca, k_X1_seek_120 ca, k_X1_seek_121 ca, k_X1_seek_122 ca, k_X1_seek_125 ca, k_X1_seek_126 ca, k_X1_seek_129 ca, k_X1_seek_132 ca, k_X1_seek_133 ca, k_X1_seek_136 ca, k_X1_seek_139 ca, a_1]
          try clear hF hF0 F
          exact k3
        have tbx : (tb 0 = x4) = False := eq_false (fun z => j4 0 (by decide) z.symm)
        have g0c := c1.c.1
        refine goN go (stp [132]) 160 _ _ _ _ _ _ (fun F hF hF0 => ?_)
        simp only [hF, hF0, ite_not, i_push, i_iload, i_lload, i_aload, i_istore, i_astore, i_lstore, i_iinc, i_bin, i_dv, i_un, i_lbin, i_lsh, i_i2l, i_l2i, i_lcmp, i_dup, i_dup2, i_pop, i_if, i_icmp, i_goto, swG, i_sw, i_getf, i_puti, i_putz, i_putr, i_ald, i_lald, i_aald, i_ast, i_last, i_aast, i_alen, i_new, i_newi, i_newl, i_newq, i_oinit, i_ret, i_zret, i_lret, i_vret, catS, tk, rpush, isO, i_m1, i_m2, i_acopy, i_callV, i_callS, KRet, lget, lput, lputL, lcl0, isL, lv0, List.map_cons, List.map_nil, List.length_cons, List.length_nil, List.cons_append, List.nil_append, Nat.reduceAdd, Nat.reduceSub, Nat.reduceLeDiff, List.replicate_succ, List.replicate_zero, List.getElem?_cons_succ, List.getElem?_cons_zero, List.set_cons_succ, List.set_cons_zero, true_and, and_true, if_true, if_false, ↓reduceIte, Nat.le_refl, Value.category, va_up_app, eq_self, stp, Nat.reduceBEq, Bool.or_false, Bool.false_or, Bool.true_or, Bool.or_true, or_true, true_or, bx_uu, implies_true, true_implies, not_true, not_false_eq_true, false_implies, and_self, Nat.reduceLT, Int32.reduceAdd, Int32.reduceSub, Int32.reduceMul, Int32.reduceLE, Int32.reduceLT, Int32.reduceToNatClampNeg, va_rf_some, Bool.false_eq_true, k_X1_seek_0 ca, k_X1_seek_1 ca, k_X1_seek_4 ca, k_X1_seek_5 ca, k_X1_seek_8 ca, k_X1_seek_9 ca, k_X1_seek_12 ca, k_X1_seek_15 ca, k_X1_seek_16 ca, k_X1_seek_17 ca, k_X1_seek_18 ca, k_X1_seek_19 ca, k_X1_seek_22 ca, k_X1_seek_25 ca, k_X1_seek_26 ca, k_X1_seek_29 ca, k_X1_seek_30 ca, k_X1_seek_33 ca, k_X1_seek_34 ca, k_X1_seek_35 ca, k_X1_seek_38 ca, k_X1_seek_39 ca, k_X1_seek_40 ca, k_X1_seek_41 ca, k_X1_seek_44 ca, k_X1_seek_47 ca, k_X1_seek_48 ca, k_X1_seek_51 ca, k_X1_seek_54 ca, k_X1_seek_55 ca, k_X1_seek_58 ca, k_X1_seek_59 ca, k_X1_seek_60 ca, k_X1_seek_63 ca, k_X1_seek_66 ca, k_X1_seek_67 ca, k_X1_seek_68 ca, k_X1_seek_71 ca, k_X1_seek_72 ca, k_X1_seek_73 ca, k_X1_seek_76 ca, k_X1_seek_79 ca, k_X1_seek_80 ca, k_X1_seek_81 ca, k_X1_seek_82 ca, k_X1_seek_85 ca, k_X1_seek_86 ca, k_X1_seek_87 ca, k_X1_seek_88 ca, k_X1_seek_91 ca, k_X1_seek_92 ca, k_X1_seek_93 ca, k_X1_seek_96 ca, k_X1_seek_97 ca, k_X1_seek_98 ca, k_X1_seek_101 ca, k_X1_seek_102 ca, k_X1_seek_103 ca, k_X1_seek_104 ca, k_X1_seek_105 ca, k_X1_seek_108 ca, k_X1_seek_109 ca, k_X1_seek_110 ca, k_X1_seek_113 ca, k_X1_seek_114 ca, k_X1_seek_115 ca, k_X1_seek_116 ca, k_X1_seek_119 ca, k_X1_seek_120 ca, k_X1_seek_121 ca, k_X1_seek_122 ca, k_X1_seek_125 ca, k_X1_seek_126 ca, k_X1_seek_129 ca, k_X1_seek_132 ca, k_X1_seek_133 ca, k_X1_seek_136 ca, k_X1_seek_139 ca, zj, c0', c4, vn, xn, vj, xj, w1, w2, ss, j9', tbx, g0c]
        try clear hF hF0 F
        exact ⟨tb, lpD s i, rts (lpS s), rfl, j1, d1, d2, fun h' p1 p2 p3 => k0 h' p1 p3⟩
      · have d1 : SAt ca (va_up G px (some (.inl (ca 0, 4096, .inl T')))) tb (lpD s i) := SAt_kept c1 (fun n hn => va_up_ne _ _ (fun z => j7 n hn z.symm))
        have d2 := Ar_ne (e := some (.inl (ca 0, 4096, .inl T'))) c2 (fun z => j7 5 (by decide) z.symm)
        have tbx : (tb 0 = px) = False := eq_false (fun z => j7 0 (by decide) z.symm)
        have g0c := c1.c.1
        refine goN go (stp [132]) 160 _ _ _ _ _ _ (fun F hF hF0 => ?_)
        simp only [hF, hF0, ite_not, i_push, i_iload, i_lload, i_aload, i_istore, i_astore, i_lstore, i_iinc, i_bin, i_dv, i_un, i_lbin, i_lsh, i_i2l, i_l2i, i_lcmp, i_dup, i_dup2, i_pop, i_if, i_icmp, i_goto, swG, i_sw, i_getf, i_puti, i_putz, i_putr, i_ald, i_lald, i_aald, i_ast, i_last, i_aast, i_alen, i_new, i_newi, i_newl, i_newq, i_oinit, i_ret, i_zret, i_lret, i_vret, catS, tk, rpush, isO, i_m1, i_m2, i_acopy, i_callV, i_callS, KRet, lget, lput, lputL, lcl0, isL, lv0, List.map_cons, List.map_nil, List.length_cons, List.length_nil, List.cons_append, List.nil_append, Nat.reduceAdd, Nat.reduceSub, Nat.reduceLeDiff, List.replicate_succ, List.replicate_zero, List.getElem?_cons_succ, List.getElem?_cons_zero, List.set_cons_succ, List.set_cons_zero, true_and, and_true, if_true, if_false, ↓reduceIte, Nat.le_refl, Value.category, va_up_app, eq_self, stp, Nat.reduceBEq, Bool.or_false, Bool.false_or, Bool.true_or, Bool.or_true, or_true, true_or, bx_uu, implies_true, true_implies, not_true, not_false_eq_true, false_implies, and_self, Nat.reduceLT, Int32.reduceAdd, Int32.reduceSub, Int32.reduceMul, Int32.reduceLE, Int32.reduceLT, Int32.reduceToNatClampNeg, va_rf_some, Bool.false_eq_true, k_X1_seek_0 ca, k_X1_seek_1 ca, k_X1_seek_4 ca, k_X1_seek_5 ca, k_X1_seek_8 ca, k_X1_seek_9 ca, k_X1_seek_12 ca, k_X1_seek_15 ca, k_X1_seek_16 ca, k_X1_seek_17 ca, k_X1_seek_18 ca, k_X1_seek_19 ca, k_X1_seek_22 ca, k_X1_seek_25 ca, k_X1_seek_26 ca, k_X1_seek_29 ca, k_X1_seek_30 ca, k_X1_seek_33 ca, k_X1_seek_34 ca, k_X1_seek_35 ca, k_X1_seek_38 ca, k_X1_seek_39 ca, k_X1_seek_40 ca, k_X1_seek_41 ca, k_X1_seek_44 ca, k_X1_seek_47 ca, k_X1_seek_48 ca, k_X1_seek_51 ca, k_X1_seek_54 ca, k_X1_seek_55 ca, k_X1_seek_58 ca, k_X1_seek_59 ca, k_X1_seek_60 ca, k_X1_seek_63 ca, k_X1_seek_66 ca, k_X1_seek_67 ca, k_X1_seek_68 ca, k_X1_seek_71 ca, k_X1_seek_72 ca, k_X1_seek_73 ca, k_X1_seek_76 ca, k_X1_seek_79 ca, k_X1_seek_80 ca, k_X1_seek_81 ca, k_X1_seek_82 ca, k_X1_seek_85 ca, k_X1_seek_86 ca, k_X1_seek_87 ca, k_X1_seek_88 ca, k_X1_seek_91 ca, k_X1_seek_92 ca, k_X1_seek_93 ca, k_X1_seek_96 ca, k_X1_seek_97 ca, k_X1_seek_98 ca, k_X1_seek_101 ca, k_X1_seek_102 ca, k_X1_seek_103 ca, k_X1_seek_104 ca, k_X1_seek_105 ca, k_X1_seek_108 ca, k_X1_seek_109 ca, k_X1_seek_110 ca, k_X1_seek_113 ca, k_X1_seek_114 ca, k_X1_seek_115 ca, k_X1_seek_116 ca, k_X1_seek_119 ca, k_X1_seek_120 ca, k_X1_seek_121 ca, k_X1_seek_122 ca, k_X1_seek_125 ca, k_X1_seek_126 ca, k_X1_seek_129 ca, k_X1_seek_132 ca, k_X1_seek_133 ca, k_X1_seek_136 ca, k_X1_seek_139 ca, c0', j10, tbx, g0c]
        try clear hF hF0 F
        refine ⟨tb, lpD s i, rts (lpS s), rfl, j1, d1, d2, fun h' p1 p2 p3 => ?_⟩
        have k0 := ih (i + 1) h' kg sg T' (some (.int (-1))) (by omega) ((p3 x4 j4).trans ((va_up_ne _ _ j10).trans c0)) p1 p2 ((p3 kx j5).trans ((va_up_ne _ _ j12).trans c3)) ((p3 sx j6).trans ((va_up_ne _ _ j13).trans c4)) ((p3 px j7).trans (va_up_self _ _ _)) c6 c7 hT' (fun a c h1 h2 => by
          by_cases z : c = i
          · subst z; exact hno a h1
          · exact a9 a c h1 (by omega)) (c10.tr (fun z z1 z2 z3 z4 z5 => (p3 z z2).trans (va_up_ne _ _ z5)))
        refine goN go (stp [40]) 160 _ _ _ _ _ _ (fun F hF hF0 => ?_)
        simp only [hF, hF0, ite_not, i_push, i_iload, i_lload, i_aload, i_istore, i_astore, i_lstore, i_iinc, i_bin, i_dv, i_un, i_lbin, i_lsh, i_i2l, i_l2i, i_lcmp, i_dup, i_dup2, i_pop, i_if, i_icmp, i_goto, swG, i_sw, i_getf, i_puti, i_putz, i_putr, i_ald, i_lald, i_aald, i_ast, i_last, i_aast, i_alen, i_new, i_newi, i_newl, i_newq, i_oinit, i_ret, i_zret, i_lret, i_vret, catS, tk, rpush, isO, i_m1, i_m2, i_acopy, i_callV, i_callS, KRet, lget, lput, lputL, lcl0, isL, lv0, List.map_cons, List.map_nil, List.length_cons, List.length_nil, List.cons_append, List.nil_append, Nat.reduceAdd, Nat.reduceSub, Nat.reduceLeDiff, List.replicate_succ, List.replicate_zero, List.getElem?_cons_succ, List.getElem?_cons_zero, List.set_cons_succ, List.set_cons_zero, true_and, and_true, if_true, if_false, ↓reduceIte, Nat.le_refl, Value.category, va_up_app, eq_self, stp, Nat.reduceBEq, Bool.or_false, Bool.false_or, Bool.true_or, Bool.or_true, or_true, true_or, bx_uu, implies_true, true_implies, not_true, not_false_eq_true, false_implies, and_self, Nat.reduceLT, Int32.reduceAdd, Int32.reduceSub, Int32.reduceMul, Int32.reduceLE, Int32.reduceLT, Int32.reduceToNatClampNeg, va_rf_some, Bool.false_eq_true, k_X1_seek_0 ca, k_X1_seek_1 ca, k_X1_seek_4 ca, k_X1_seek_5 ca, k_X1_seek_8 ca, k_X1_seek_9 ca, k_X1_seek_12 ca, k_X1_seek_15 ca, k_X1_seek_16 ca, k_X1_seek_17 ca, k_X1_seek_18 ca, k_X1_seek_19 ca, k_X1_seek_22 ca, k_X1_seek_25 ca, k_X1_seek_26 ca, k_X1_seek_29 ca, k_X1_seek_30 ca, k_X1_seek_33 ca, k_X1_seek_34 ca, k_X1_seek_35 ca, k_X1_seek_38 ca, k_X1_seek_39 ca, k_X1_seek_40 ca, k_X1_seek_41 ca, k_X1_seek_44 ca, k_X1_seek_47 ca, k_X1_seek_48 ca, k_X1_seek_51 ca, k_X1_seek_54 ca, k_X1_seek_55 ca, k_X1_seek_58 ca, k_X1_seek_59 ca, k_X1_seek_60 ca, k_X1_seek_63 ca, k_X1_seek_66 ca, k_X1_seek_67 ca, k_X1_seek_68 ca, k_X1_seek_71 ca, k_X1_seek_72 ca, k_X1_seek_73 ca, k_X1_seek_76 ca, k_X1_seek_79 ca, k_X1_seek_80 ca, k_X1_seek_81 ca, k_X1_seek_82 ca, k_X1_seek_85 ca, k_X1_seek_86 ca, k_X1_seek_87 ca, k_X1_seek_88 ca, k_X1_seek_91 ca, k_X1_seek_92 ca, k_X1_seek_93 ca, k_X1_seek_96 ca, k_X1_seek_97 ca, k_X1_seek_98 ca, k_X1_seek_101 ca, k_X1_seek_102 ca, k_X1_seek_103 ca, k_X1_seek_104 ca, k_X1_seek_105 ca, k_X1_seek_108 ca, k_X1_seek_109 ca, k_X1_seek_110 ca, k_X1_seek_113 ca, k_X1_seek_114 ca, k_X1_seek_115 ca, k_X1_seek_116 ca, k_X1_seek_119 ca, k_X1_seek_120 ca, k_X1_seek_121 ca, k_X1_seek_122 ca, k_X1_seek_125 ca, k_X1_seek_126 ca, k_X1_seek_129 ca, k_X1_seek_132 ca, k_X1_seek_133 ca, k_X1_seek_136 ca, k_X1_seek_139 ca, a_1]
        try clear hF hF0 F
        exact k0
  clear fin
  refine goN go (stp [8]) 160 _ _ _ _ _ _ (fun F hF hF0 => ?_)
  simp only [hF, hF0, ite_not, i_push, i_iload, i_lload, i_aload, i_istore, i_astore, i_lstore, i_iinc, i_bin, i_dv, i_un, i_lbin, i_lsh, i_i2l, i_l2i, i_lcmp, i_dup, i_dup2, i_pop, i_if, i_icmp, i_goto, swG, i_sw, i_getf, i_puti, i_putz, i_putr, i_ald, i_lald, i_aald, i_ast, i_last, i_aast, i_alen, i_new, i_newi, i_newl, i_newq, i_oinit, i_ret, i_zret, i_lret, i_vret, catS, tk, rpush, isO, i_m1, i_m2, i_acopy, i_callV, i_callS, KRet, lget, lput, lputL, lcl0, isL, lv0, List.map_cons, List.map_nil, List.length_cons, List.length_nil, List.cons_append, List.nil_append, Nat.reduceAdd, Nat.reduceSub, Nat.reduceLeDiff, List.replicate_succ, List.replicate_zero, List.getElem?_cons_succ, List.getElem?_cons_zero, List.set_cons_succ, List.set_cons_zero, true_and, and_true, if_true, if_false, ↓reduceIte, Nat.le_refl, Value.category, va_up_app, eq_self, stp, Nat.reduceBEq, Bool.or_false, Bool.false_or, Bool.true_or, Bool.or_true, or_true, true_or, bx_uu, implies_true, true_implies, not_true, not_false_eq_true, false_implies, and_self, Nat.reduceLT, Int32.reduceAdd, Int32.reduceSub, Int32.reduceMul, Int32.reduceLE, Int32.reduceLT, Int32.reduceToNatClampNeg, va_rf_some, Bool.false_eq_true, k_X1_seek_0 ca, k_X1_seek_1 ca, k_X1_seek_4 ca, k_X1_seek_5 ca, k_X1_seek_8 ca, k_X1_seek_9 ca, k_X1_seek_12 ca, k_X1_seek_15 ca, k_X1_seek_16 ca, k_X1_seek_17 ca, k_X1_seek_18 ca, k_X1_seek_19 ca, k_X1_seek_22 ca, k_X1_seek_25 ca, k_X1_seek_26 ca, k_X1_seek_29 ca, k_X1_seek_30 ca, k_X1_seek_33 ca, k_X1_seek_34 ca, k_X1_seek_35 ca, k_X1_seek_38 ca, k_X1_seek_39 ca, k_X1_seek_40 ca, k_X1_seek_41 ca, k_X1_seek_44 ca, k_X1_seek_47 ca, k_X1_seek_48 ca, k_X1_seek_51 ca, k_X1_seek_54 ca, k_X1_seek_55 ca, k_X1_seek_58 ca, k_X1_seek_59 ca, k_X1_seek_60 ca, k_X1_seek_63 ca, k_X1_seek_66 ca, k_X1_seek_67 ca, k_X1_seek_68 ca, k_X1_seek_71 ca, k_X1_seek_72 ca, k_X1_seek_73 ca, k_X1_seek_76 ca, k_X1_seek_79 ca, k_X1_seek_80 ca, k_X1_seek_81 ca, k_X1_seek_82 ca, k_X1_seek_85 ca, k_X1_seek_86 ca, k_X1_seek_87 ca, k_X1_seek_88 ca, k_X1_seek_91 ca, k_X1_seek_92 ca, k_X1_seek_93 ca, k_X1_seek_96 ca, k_X1_seek_97 ca, k_X1_seek_98 ca, k_X1_seek_101 ca, k_X1_seek_102 ca, k_X1_seek_103 ca, k_X1_seek_104 ca, k_X1_seek_105 ca, k_X1_seek_108 ca, k_X1_seek_109 ca, k_X1_seek_110 ca, k_X1_seek_113 ca, k_X1_seek_114 ca, k_X1_seek_115 ca, k_X1_seek_116 ca, k_X1_seek_119 ca, k_X1_seek_120 ca, k_X1_seek_121 ca, k_X1_seek_122 ca, k_X1_seek_125 ca, k_X1_seek_126 ca, k_X1_seek_129 ca, k_X1_seek_132 ca, k_X1_seek_133 ca, k_X1_seek_136 ca, k_X1_seek_139 ca, e0', hT.c.1]
  try clear hF hF0 F
  refine ⟨tb, b, tt, s, rfl, j1, j2, j3, hT, hS, hbo, fun h1 p1 p2 => ?_⟩
  have q0 := (p2 x4 j4).trans e0'
  have q3 := (p2 kx j5).trans ek
  have q4 := (p2 sx j6).trans es
  have q5 := (p2 px j7).trans ep
  obtain ⟨y0, -, -, -, ⟨f2, y1, y2⟩⟩ := p1.c
  have hS2 : SAt ca (va_up h1 (tb 2) (some (.inl (ca 0, 2, .inl (upd f2 0 0))))) tb (lpS s) := SAt_cong (SAt_set j1 p1 (upd f2 0 0)) (fun j hj => by
    unfold lpS
    rw [upd_app]
    by_cases z : 6 ≤ j ∧ j < 8
    · have e : j = 6 + (j - 6) := by omega
      rw [e, ovr_in (by omega), upd_app, y2 _ (by omega)]
      by_cases w : j - 6 = 0
      · rw [if_pos w, if_pos (by omega)]
      · rw [if_neg w, if_neg (by omega)]
    · rw [ovr_out (by omega), if_neg (by omega)])
  have x42 : (x4 = tb 2) = False := eq_false (j4 2 (by decide))
  have t02 : (tb 0 = tb 2) = False := bne j1 (by decide)
  refine goN go (stp [25]) 160 _ _ _ _ _ _ (fun F hF hF0 => ?_)
  simp only [hF, hF0, ite_not, i_push, i_iload, i_lload, i_aload, i_istore, i_astore, i_lstore, i_iinc, i_bin, i_dv, i_un, i_lbin, i_lsh, i_i2l, i_l2i, i_lcmp, i_dup, i_dup2, i_pop, i_if, i_icmp, i_goto, swG, i_sw, i_getf, i_puti, i_putz, i_putr, i_ald, i_lald, i_aald, i_ast, i_last, i_aast, i_alen, i_new, i_newi, i_newl, i_newq, i_oinit, i_ret, i_zret, i_lret, i_vret, catS, tk, rpush, isO, i_m1, i_m2, i_acopy, i_callV, i_callS, KRet, lget, lput, lputL, lcl0, isL, lv0, List.map_cons, List.map_nil, List.length_cons, List.length_nil, List.cons_append, List.nil_append, Nat.reduceAdd, Nat.reduceSub, Nat.reduceLeDiff, List.replicate_succ, List.replicate_zero, List.getElem?_cons_succ, List.getElem?_cons_zero, List.set_cons_succ, List.set_cons_zero, true_and, and_true, if_true, if_false, ↓reduceIte, Nat.le_refl, Value.category, va_up_app, eq_self, stp, Nat.reduceBEq, Bool.or_false, Bool.false_or, Bool.true_or, Bool.or_true, or_true, true_or, bx_uu, implies_true, true_implies, not_true, not_false_eq_true, false_implies, and_self, Nat.reduceLT, Int32.reduceAdd, Int32.reduceSub, Int32.reduceMul, Int32.reduceLE, Int32.reduceLT, Int32.reduceToNatClampNeg, va_rf_some, Bool.false_eq_true, k_X1_seek_0 ca, k_X1_seek_1 ca, k_X1_seek_4 ca, k_X1_seek_5 ca, k_X1_seek_8 ca, k_X1_seek_9 ca, k_X1_seek_12 ca, k_X1_seek_15 ca, k_X1_seek_16 ca, k_X1_seek_17 ca, k_X1_seek_18 ca, k_X1_seek_19 ca, k_X1_seek_22 ca, k_X1_seek_25 ca, k_X1_seek_26 ca, k_X1_seek_29 ca, k_X1_seek_30 ca, k_X1_seek_33 ca, k_X1_seek_34 ca, k_X1_seek_35 ca, k_X1_seek_38 ca, k_X1_seek_39 ca, k_X1_seek_40 ca, k_X1_seek_41 ca, k_X1_seek_44 ca, k_X1_seek_47 ca, k_X1_seek_48 ca, k_X1_seek_51 ca, k_X1_seek_54 ca, k_X1_seek_55 ca, k_X1_seek_58 ca, k_X1_seek_59 ca, k_X1_seek_60 ca, k_X1_seek_63 ca, k_X1_seek_66 ca, k_X1_seek_67 ca, k_X1_seek_68 ca, k_X1_seek_71 ca, k_X1_seek_72 ca, k_X1_seek_73 ca, k_X1_seek_76 ca, k_X1_seek_79 ca, k_X1_seek_80 ca, k_X1_seek_81 ca, k_X1_seek_82 ca, k_X1_seek_85 ca, k_X1_seek_86 ca, k_X1_seek_87 ca, k_X1_seek_88 ca, k_X1_seek_91 ca, k_X1_seek_92 ca, k_X1_seek_93 ca, k_X1_seek_96 ca, k_X1_seek_97 ca, k_X1_seek_98 ca, k_X1_seek_101 ca, k_X1_seek_102 ca, k_X1_seek_103 ca, k_X1_seek_104 ca, k_X1_seek_105 ca, k_X1_seek_108 ca, k_X1_seek_109 ca, k_X1_seek_110 ca, k_X1_seek_113 ca, k_X1_seek_114 ca, k_X1_seek_115 ca, k_X1_seek_116 ca, k_X1_seek_119 ca, k_X1_seek_120 ca, k_X1_seek_121 ca, k_X1_seek_122 ca, k_X1_seek_125 ca, k_X1_seek_126 ca, k_X1_seek_129 ca, k_X1_seek_132 ca, k_X1_seek_133 ca, k_X1_seek_136 ca, k_X1_seek_139 ca, q0, y0, y1, v02, x42, t02]
  try clear hF hF0 F
  refine ⟨tb, lpS s, rfl, j1, hS2, WfS_lp hW, fun h3 r1 r2 r3 => ?_⟩
  have s0 := (r3 x4 (j4 5 (by decide))).trans ((va_up_ne _ _ (j4 2 (by decide))).trans q0)
  have s3 := (r3 kx (j5 5 (by decide))).trans ((va_up_ne _ _ (j5 2 (by decide))).trans q3)
  have s4 := (r3 sx (j6 5 (by decide))).trans ((va_up_ne _ _ (j6 2 (by decide))).trans q4)
  have s5 := (r3 px (j7 5 (by decide))).trans ((va_up_ne _ _ (j7 2 (by decide))).trans q5)
  have hfl : ∀ c, c < 4096 → fil T (-1) 4096 c = -1 := fun c hc => flo_in hc
  have k0 := key 1501 0 (va_up (va_up h3 px (some (.inl (ca 0, 4096, .inl (fil T (-1) 4096))))) x4 (some (eLoop (tb 0) kx sx px 0 le pe sn))) kf sf (fil T (-1) 4096) none (by omega) (va_up_self _ _ _) (SAt_kept r1 (fun n hn => (va_up_ne _ _ (fun z => j4 n hn z.symm)).trans (va_up_ne _ _ (fun z => j7 n hn z.symm)))) (Ar_ne (Ar_ne r2 (fun z => j7 5 (by decide) z.symm)) (fun z => j4 5 (by decide) z.symm)) ((va_up_ne _ _ j8').trans ((va_up_ne _ _ j12).trans s3)) ((va_up_ne _ _ j9').trans ((va_up_ne _ _ j13).trans s4)) ((va_up_ne _ _ j10').trans (va_up_self _ _ _)) (fun j hj => absurd hj (by omega)) (fun j hj => absurd hj (by omega)) ⟨fun c hc => Or.inl (hfl c hc), fun j hj => absurd hj (by omega), fun c d hc hd hne => absurd (hfl c hc) hne⟩ (fun a c _ hc => absurd hc (by omega)) (fun z z1 z2 z3 z4 z5 => (va_up_ne _ _ z1).trans ((va_up_ne _ _ z5).trans ((r3 z (z2 5 (by decide))).trans ((va_up_ne _ _ (z2 2 (by decide))).trans (p2 z z2)))))
  rw [nI_0] at k0
  unfold eLoop at k0
  have l4096 : (4096 < 2147483648) = True := eq_true (by decide)
  refine goN go (stp [40]) 160 _ _ _ _ _ _ (fun F hF hF0 => ?_)
  simp only [hF, hF0, ite_not, i_push, i_iload, i_lload, i_aload, i_istore, i_astore, i_lstore, i_iinc, i_bin, i_dv, i_un, i_lbin, i_lsh, i_i2l, i_l2i, i_lcmp, i_dup, i_dup2, i_pop, i_if, i_icmp, i_goto, swG, i_sw, i_getf, i_puti, i_putz, i_putr, i_ald, i_lald, i_aald, i_ast, i_last, i_aast, i_alen, i_new, i_newi, i_newl, i_newq, i_oinit, i_ret, i_zret, i_lret, i_vret, catS, tk, rpush, isO, i_m1, i_m2, i_acopy, i_callV, i_callS, KRet, lget, lput, lputL, lcl0, isL, lv0, List.map_cons, List.map_nil, List.length_cons, List.length_nil, List.cons_append, List.nil_append, Nat.reduceAdd, Nat.reduceSub, Nat.reduceLeDiff, List.replicate_succ, List.replicate_zero, List.getElem?_cons_succ, List.getElem?_cons_zero, List.set_cons_succ, List.set_cons_zero, true_and, and_true, if_true, if_false, ↓reduceIte, Nat.le_refl, Value.category, va_up_app, eq_self, stp, Nat.reduceBEq, Bool.or_false, Bool.false_or, Bool.true_or, Bool.or_true, or_true, true_or, bx_uu, implies_true, true_implies, not_true, not_false_eq_true, false_implies, and_self, Nat.reduceLT, Int32.reduceAdd, Int32.reduceSub, Int32.reduceMul, Int32.reduceLE, Int32.reduceLT, Int32.reduceToNatClampNeg, va_rf_some, Bool.false_eq_true, k_X1_seek_0 ca, k_X1_seek_1 ca, k_X1_seek_4 ca, k_X1_seek_5 ca, k_X1_seek_8 ca, k_X1_seek_9 ca, k_X1_seek_12 ca, k_X1_seek_15 ca, k_X1_seek_16 ca, k_X1_seek_17 ca, k_X1_seek_18 ca, k_X1_seek_19 ca, k_X1_seek_22 ca, k_X1_seek_25 ca, k_X1_seek_26 ca, k_X1_seek_29 ca, k_X1_seek_30 ca, k_X1_seek_33 ca, k_X1_seek_34 ca, k_X1_seek_35 ca, k_X1_seek_38 ca, k_X1_seek_39 ca, k_X1_seek_40 ca, k_X1_seek_41 ca, k_X1_seek_44 ca, k_X1_seek_47 ca, k_X1_seek_48 ca, k_X1_seek_51 ca, k_X1_seek_54 ca, k_X1_seek_55 ca, k_X1_seek_58 ca, k_X1_seek_59 ca, k_X1_seek_60 ca, k_X1_seek_63 ca, k_X1_seek_66 ca, k_X1_seek_67 ca, k_X1_seek_68 ca, k_X1_seek_71 ca, k_X1_seek_72 ca, k_X1_seek_73 ca, k_X1_seek_76 ca, k_X1_seek_79 ca, k_X1_seek_80 ca, k_X1_seek_81 ca, k_X1_seek_82 ca, k_X1_seek_85 ca, k_X1_seek_86 ca, k_X1_seek_87 ca, k_X1_seek_88 ca, k_X1_seek_91 ca, k_X1_seek_92 ca, k_X1_seek_93 ca, k_X1_seek_96 ca, k_X1_seek_97 ca, k_X1_seek_98 ca, k_X1_seek_101 ca, k_X1_seek_102 ca, k_X1_seek_103 ca, k_X1_seek_104 ca, k_X1_seek_105 ca, k_X1_seek_108 ca, k_X1_seek_109 ca, k_X1_seek_110 ca, k_X1_seek_113 ca, k_X1_seek_114 ca, k_X1_seek_115 ca, k_X1_seek_116 ca, k_X1_seek_119 ca, k_X1_seek_120 ca, k_X1_seek_121 ca, k_X1_seek_122 ca, k_X1_seek_125 ca, k_X1_seek_126 ca, k_X1_seek_129 ca, k_X1_seek_132 ca, k_X1_seek_133 ca, k_X1_seek_136 ca, k_X1_seek_139 ca, s0, s5, sp_J7_fill_53178, j10, l4096]
  try clear hF hF0 F
  exact k0

