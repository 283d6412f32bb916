/-! State: a tick -/
def mk7 (x0 x1 x2 x3 x4 x5 x6 : Int32) : Nat → Int32
  | 0 => x0
  | 1 => x1
  | 2 => x2
  | 3 => x3
  | 4 => x4
  | 5 => x5
  | _ => x6
def mk2 (x0 x1 : Int32) : Nat → Int32
  | 0 => x0
  | _ => x1
def roomT (s : Nat → Int32) (k : Nat) (w : Int32) : Nat → Int32 := mk7 w (s (107 + 7 * k)) (s (108 + 7 * k)) (s (109 + 7 * k)) (s (110 + 7 * k) + (if closedF (s (17 + 32 * k)) (s (14 + 32 * k)) = false then 0 else 1)) (maxF (s (111 + 7 * k)) w) (minF (s (112 + 7 * k)) w)
def stR (s v : Nat → Int32) (k : Nat) : Nat → Int32 := ovr s (106 + 7 * k) 7 (roomT s k (v k))
def stM (s r : Nat → Int32) (k : Nat) : Nat → Int32 := ovr s (10 + 32 * k) 8 (mvT (fun i => s (10 + 32 * k + i)) (s 6) (s 7) (r k * (s (106 + 7 * k) - 200)))
def stC (s r : Nat → Int32) (k : Nat) : Bool := chB (s (11 + 32 * k)) (s (12 + 32 * k)) (s (13 + 32 * k)) (s (15 + 32 * k)) (s (14 + 32 * k)) (r k * (s (106 + 7 * k) - 200))
def stT (s r v : Nat → Int32) (k : Nat) : Nat → Int32 := stM (stR s v k) r k
def stN (s r v : Nat → Int32) (k : Nat) : Int32 := if stC (stR s v k) r k = false then 0 else 1
def tk3 (s r v : Nat → Int32) : Nat → Int32 := stT (stT (stT s r v 0) r v 1) r v 2
def tkS (s r : Nat → Int32) : Nat → Int32 := ovr (tk3 s r (wtc s)) 8 2 (mk2 (tk3 s r (wtc s) 8) (tk3 s r (wtc s) 9 + 1))
def tkN (s r : Nat → Int32) : Int32 := 0 + stN s r (wtc s) 0 + stN (stT s r (wtc s) 0) r (wtc s) 1 + stN (stT (stT s r (wtc s) 0) r (wtc s) 1) r (wtc s) 2
def sp_X4_passTick (ca : Nat → ClassId) : SPEC := fun av h post => ∃ b s r, av = [.ref (b 0)] ∧ Inj b ∧ SAt ca h b s ∧ Ar h (b 5) (ca 0) 3 r ∧ ∀ h', SAt ca h' b (tkS s r) → Ar h' (b 5) (ca 0) 3 r → Same b h h' → post (some (.int (tkN s r))) h'
def k_X4_passTick (ca : Nat → ClassId) : Nat → IT := fun pc => lk pc [(0, i_push (.int 0) 1),
  (1, i_istore 1 2),
  (2, i_iload 1 3),
  (3, i_push (.int 3) 4),
  (4, i_icmp (fun x y => y ≤ x) 24 7),
  (7, i_aload 0 8),
  (8, i_getf 4 7 11),
  (11, i_iload 1 12),
  (12, i_aload 0 13),
  (13, i_iload 1 14),
  (14, i_callV 4 1 0 0 0 0 (sp_X4_warmthToCome ca) 17),
  (17, i_ast (fun x => x) (ca 0) 18),
  (18, i_iinc 1 1 21),
  (21, i_goto 2),
  (24, i_push (.int 0) 25),
  (25, i_istore 1 26),
  (26, i_push (.int 0) 27),
  (27, i_istore 2 28),
  (28, i_iload 2 29),
  (29, i_push (.int 3) 30),
  (30, i_icmp (fun x y => y ≤ x) 91 33),
  (33, i_aload 0 34),
  (34, i_getf 4 3 37),
  (37, i_iload 2 38),
  (38, i_aald (ca 4) 39),
  (39, i_dup 40),
  (40, i_getf 2 4 43),
  (43, i_aload 0 44),
  (44, i_getf 4 2 47),
  (47, i_iload 2 48),
  (48, i_aald (ca 6) 49),
  (49, i_callV 5 0 0 0 0 0 (sp_X5_isClosed ca) 52),
  (52, i_callS 1 0 0 0 0 (sp_X7_oneIf ca) 55),
  (55, i_bin (fun x y => x + y) 56),
  (56, i_puti 2 4 59),
  (59, i_aload 0 60),
  (60, i_getf 4 3 63),
  (63, i_iload 2 64),
  (64, i_aald (ca 4) 65),
  (65, i_aload 0 66),
  (66, i_getf 4 7 69),
  (69, i_iload 2 70),
  (70, i_ald (ca 0) 71),
  (71, i_callV 2 1 0 0 0 0 (sp_X2_come ca) 74),
  (74, i_iload 1 75),
  (75, i_aload 0 76),
  (76, i_iload 2 77),
  (77, i_callV 4 1 0 0 0 0 (sp_X4_moveStrip ca) 80),
  (80, i_callS 1 0 0 0 0 (sp_X7_oneIf ca) 83),
  (83, i_bin (fun x y => x + y) 84),
  (84, i_istore 1 85),
  (85, i_iinc 2 1 88),
  (88, i_goto 28),
  (91, i_aload 0 92),
  (92, i_dup 93),
  (93, i_getf 4 5 96),
  (96, i_push (.int 1) 97),
  (97, i_bin (fun x y => x + y) 98),
  (98, i_puti 4 5 101),
  (101, i_iload 1 102),
  (102, i_ret)]
set_option maxRecDepth 20000 in
theorem t_X4_passTick : Tb k_X4_passTick yX4_passTick cX4_passTick 3 (some .int) 3 0 0 := by
  intro l D ca A p e s m args below meth c post X
  unfold k_X4_passTick
  refine snd_cons (snd_iconst X dX4_passTick_0 (by decide)) ?_
  refine snd_cons (snd_istore_n X dX4_passTick_1 rfl (by decide)) ?_
  refine snd_cons (snd_iload_n X dX4_passTick_2 rfl) ?_
  refine snd_cons (snd_iconst X dX4_passTick_3 (by decide)) ?_
  refine snd_cons (snd_icmp_ge X dX4_passTick_4 (by decide)) ?_
  refine snd_cons (snd_aload_n X dX4_passTick_7 rfl) ?_
  refine snd_cons (snd_getf X Fk4 7 (by decide) w_136 dX4_passTick_8) ?_
  refine snd_cons (snd_iload_n X dX4_passTick_11 rfl) ?_
  refine snd_cons (snd_aload_n X dX4_passTick_12 rfl) ?_
  refine snd_cons (snd_iload_n X dX4_passTick_13 rfl) ?_
  refine snd_cons (snd_callV X Fk4 (ok_X4_warmthToCome l D ca) rfl rfl w_429 w_431 wp_2 w_2 w_432 (by decide) (by decide) dX4_passTick_14) ?_
  refine snd_cons (snd_iastore X dX4_passTick_17) ?_
  refine snd_cons (snd_iinc X dX4_passTick_18 (by decide) (by decide)) ?_
  refine snd_cons (snd_goto X dX4_passTick_21 (by decide)) ?_
  refine snd_cons (snd_iconst X dX4_passTick_24 (by decide)) ?_
  refine snd_cons (snd_istore_n X dX4_passTick_25 rfl (by decide)) ?_
  refine snd_cons (snd_iconst X dX4_passTick_26 (by decide)) ?_
  refine snd_cons (snd_istore_n X dX4_passTick_27 rfl (by decide)) ?_
  refine snd_cons (snd_iload_n X dX4_passTick_28 rfl) ?_
  refine snd_cons (snd_iconst X dX4_passTick_29 (by decide)) ?_
  refine snd_cons (snd_icmp_ge X dX4_passTick_30 (by decide)) ?_
  refine snd_cons (snd_aload_n X dX4_passTick_33 rfl) ?_
  refine snd_cons (snd_getf X Fk4 3 (by decide) w_129 dX4_passTick_34) ?_
  refine snd_cons (snd_iload_n X dX4_passTick_37 rfl) ?_
  refine snd_cons (snd_aaload X 4 rfl dX4_passTick_38) ?_
  refine snd_cons (snd_dup X dX4_passTick_39) ?_
  refine snd_cons (snd_getf X Fk2 4 (by decide) w_101 dX4_passTick_40) ?_
  refine snd_cons (snd_aload_n X dX4_passTick_43 rfl) ?_
  refine snd_cons (snd_getf X Fk4 2 (by decide) w_127 dX4_passTick_44) ?_
  refine snd_cons (snd_iload_n X dX4_passTick_47 rfl) ?_
  refine snd_cons (snd_aaload X 6 rfl dX4_passTick_48) ?_
  refine snd_cons (snd_callV X Fk5 (ok_X5_isClosed l D ca) rfl rfl w_437 w_354 w_355 w_3 w_356 (by decide) (by decide) dX4_passTick_49) ?_
  refine snd_cons (snd_callSN X (ok_X7_oneIf l D ca) rfl rfl (fun h => h.2.1) w_351 w_1 w_352 (by decide) (by decide) dX4_passTick_52) ?_
  refine snd_cons (snd_iadd X dX4_passTick_55) ?_
  refine snd_cons (snd_puti X Fk2 4 (by decide) rfl rfl w_101 dX4_passTick_56) ?_
  refine snd_cons (snd_aload_n X dX4_passTick_59 rfl) ?_
  refine snd_cons (snd_getf X Fk4 3 (by decide) w_129 dX4_passTick_60) ?_
  refine snd_cons (snd_iload_n X dX4_passTick_63 rfl) ?_
  refine snd_cons (snd_aaload X 4 rfl dX4_passTick_64) ?_
  refine snd_cons (snd_aload_n X dX4_passTick_65 rfl) ?_
  refine snd_cons (snd_getf X Fk4 7 (by decide) w_136 dX4_passTick_66) ?_
  refine snd_cons (snd_iload_n X dX4_passTick_69 rfl) ?_
  refine snd_cons (snd_iaload X dX4_passTick_70) ?_
  refine snd_cons (snd_callV X Fk2 (ok_X2_come l D ca) rfl rfl w_444 w_445 w_446 w_4 w_447 (by decide) (by decide) dX4_passTick_71) ?_
  refine snd_cons (snd_iload_n X dX4_passTick_74 rfl) ?_
  refine snd_cons (snd_aload_n X dX4_passTick_75 rfl) ?_
  refine snd_cons (snd_iload_n X dX4_passTick_76 rfl) ?_
  refine snd_cons (snd_callV X Fk4 (ok_X4_moveStrip l D ca) rfl rfl w_450 w_452 wp_3 w_2 w_453 (by decide) (by decide) dX4_passTick_77) ?_
  refine snd_cons (snd_callSN X (ok_X7_oneIf l D ca) rfl rfl (fun h => h.2.1) w_351 w_1 w_352 (by decide) (by decide) dX4_passTick_80) ?_
  refine snd_cons (snd_iadd X dX4_passTick_83) ?_
  refine snd_cons (snd_istore_n X dX4_passTick_84 rfl (by decide)) ?_
  refine snd_cons (snd_iinc X dX4_passTick_85 (by decide) (by decide)) ?_
  refine snd_cons (snd_goto X dX4_passTick_88 (by decide)) ?_
  refine snd_cons (snd_aload_n X dX4_passTick_91 rfl) ?_
  refine snd_cons (snd_dup X dX4_passTick_92) ?_
  refine snd_cons (snd_getf X Fk4 5 (by decide) w_133 dX4_passTick_93) ?_
  refine snd_cons (snd_iconst X dX4_passTick_96 (by decide)) ?_
  refine snd_cons (snd_iadd X dX4_passTick_97) ?_
  refine snd_cons (snd_puti X Fk4 5 (by decide) rfl rfl w_133 dX4_passTick_98) ?_
  refine snd_cons (snd_iload_n X dX4_passTick_101 rfl) ?_
  refine snd_cons (snd_ret X dX4_passTick_102) ?_
  exact snd_nil
theorem k_X4_passTick_0 (ca : Nat → ClassId) : k_X4_passTick ca 0 = i_push (.int 0) 1 := rfl
theorem k_X4_passTick_1 (ca : Nat → ClassId) : k_X4_passTick ca 1 = i_istore 1 2 := rfl
theorem k_X4_passTick_2 (ca : Nat → ClassId) : k_X4_passTick ca 2 = i_iload 1 3 := rfl
theorem k_X4_passTick_3 (ca : Nat → ClassId) : k_X4_passTick ca 3 = i_push (.int 3) 4 := rfl
theorem k_X4_passTick_4 (ca : Nat → ClassId) : k_X4_passTick ca 4 = i_icmp (fun x y => y ≤ x) 24 7 := rfl
theorem k_X4_passTick_7 (ca : Nat → ClassId) : k_X4_passTick ca 7 = i_aload 0 8 := rfl
theorem k_X4_passTick_8 (ca : Nat → ClassId) : k_X4_passTick ca 8 = i_getf 4 7 11 := rfl
theorem k_X4_passTick_11 (ca : Nat → ClassId) : k_X4_passTick ca 11 = i_iload 1 12 := rfl
theorem k_X4_passTick_12 (ca : Nat → ClassId) : k_X4_passTick ca 12 = i_aload 0 13 := rfl
theorem k_X4_passTick_13 (ca : Nat → ClassId) : k_X4_passTick ca 13 = i_iload 1 14 := rfl
theorem k_X4_passTick_14 (ca : Nat → ClassId) : k_X4_passTick ca 14 = i_callV 4 1 0 0 0 0 (sp_X4_warmthToCome ca) 17 := rfl
theorem k_X4_passTick_17 (ca : Nat → ClassId) : k_X4_passTick ca 17 = i_ast (fun x => x) (ca 0) 18 := rfl
theorem k_X4_passTick_18 (ca : Nat → ClassId) : k_X4_passTick ca 18 = i_iinc 1 1 21 := rfl
theorem k_X4_passTick_21 (ca : Nat → ClassId) : k_X4_passTick ca 21 = i_goto 2 := rfl
theorem k_X4_passTick_24 (ca : Nat → ClassId) : k_X4_passTick ca 24 = i_push (.int 0) 25 := rfl
theorem k_X4_passTick_25 (ca : Nat → ClassId) : k_X4_passTick ca 25 = i_istore 1 26 := rfl
theorem k_X4_passTick_26 (ca : Nat → ClassId) : k_X4_passTick ca 26 = i_push (.int 0) 27 := rfl
theorem k_X4_passTick_27 (ca : Nat → ClassId) : k_X4_passTick ca 27 = i_istore 2 28 := rfl
theorem k_X4_passTick_28 (ca : Nat → ClassId) : k_X4_passTick ca 28 = i_iload 2 29 := rfl
theorem k_X4_passTick_29 (ca : Nat → ClassId) : k_X4_passTick ca 29 = i_push (.int 3) 30 := rfl
theorem k_X4_passTick_30 (ca : Nat → ClassId) : k_X4_passTick ca 30 = i_icmp (fun x y => y ≤ x) 91 33 := rfl
theorem k_X4_passTick_33 (ca : Nat → ClassId) : k_X4_passTick ca 33 = i_aload 0 34 := rfl
theorem k_X4_passTick_34 (ca : Nat → ClassId) : k_X4_passTick ca 34 = i_getf 4 3 37 := rfl
theorem k_X4_passTick_37 (ca : Nat → ClassId) : k_X4_passTick ca 37 = i_iload 2 38 := rfl
theorem k_X4_passTick_38 (ca : Nat → ClassId) : k_X4_passTick ca 38 = i_aald (ca 4) 39 := rfl
theorem k_X4_passTick_39 (ca : Nat → ClassId) : k_X4_passTick ca 39 = i_dup 40 := rfl
theorem k_X4_passTick_40 (ca : Nat → ClassId) : k_X4_passTick ca 40 = i_getf 2 4 43 := rfl
theorem k_X4_passTick_43 (ca : Nat → ClassId) : k_X4_passTick ca 43 = i_aload 0 44 := rfl
theorem k_X4_passTick_44 (ca : Nat → ClassId) : k_X4_passTick ca 44 = i_getf 4 2 47 := rfl
theorem k_X4_passTick_47 (ca : Nat → ClassId) : k_X4_passTick ca 47 = i_iload 2 48 := rfl
theorem k_X4_passTick_48 (ca : Nat → ClassId) : k_X4_passTick ca 48 = i_aald (ca 6) 49 := rfl
theorem k_X4_passTick_49 (ca : Nat → ClassId) : k_X4_passTick ca 49 = i_callV 5 0 0 0 0 0 (sp_X5_isClosed ca) 52 := rfl
theorem k_X4_passTick_52 (ca : Nat → ClassId) : k_X4_passTick ca 52 = i_callS 1 0 0 0 0 (sp_X7_oneIf ca) 55 := rfl
theorem k_X4_passTick_55 (ca : Nat → ClassId) : k_X4_passTick ca 55 = i_bin (fun x y => x + y) 56 := rfl
theorem k_X4_passTick_56 (ca : Nat → ClassId) : k_X4_passTick ca 56 = i_puti 2 4 59 := rfl
theorem k_X4_passTick_59 (ca : Nat → ClassId) : k_X4_passTick ca 59 = i_aload 0 60 := rfl
theorem k_X4_passTick_60 (ca : Nat → ClassId) : k_X4_passTick ca 60 = i_getf 4 3 63 := rfl
theorem k_X4_passTick_63 (ca : Nat → ClassId) : k_X4_passTick ca 63 = i_iload 2 64 := rfl
theorem k_X4_passTick_64 (ca : Nat → ClassId) : k_X4_passTick ca 64 = i_aald (ca 4) 65 := rfl
theorem k_X4_passTick_65 (ca : Nat → ClassId) : k_X4_passTick ca 65 = i_aload 0 66 := rfl
theorem k_X4_passTick_66 (ca : Nat → ClassId) : k_X4_passTick ca 66 = i_getf 4 7 69 := rfl
theorem k_X4_passTick_69 (ca : Nat → ClassId) : k_X4_passTick ca 69 = i_iload 2 70 := rfl
theorem k_X4_passTick_70 (ca : Nat → ClassId) : k_X4_passTick ca 70 = i_ald (ca 0) 71 := rfl
theorem k_X4_passTick_71 (ca : Nat → ClassId) : k_X4_passTick ca 71 = i_callV 2 1 0 0 0 0 (sp_X2_come ca) 74 := rfl
theorem k_X4_passTick_74 (ca : Nat → ClassId) : k_X4_passTick ca 74 = i_iload 1 75 := rfl
theorem k_X4_passTick_75 (ca : Nat → ClassId) : k_X4_passTick ca 75 = i_aload 0 76 := rfl
theorem k_X4_passTick_76 (ca : Nat → ClassId) : k_X4_passTick ca 76 = i_iload 2 77 := rfl
theorem k_X4_passTick_77 (ca : Nat → ClassId) : k_X4_passTick ca 77 = i_callV 4 1 0 0 0 0 (sp_X4_moveStrip ca) 80 := rfl
theorem k_X4_passTick_80 (ca : Nat → ClassId) : k_X4_passTick ca 80 = i_callS 1 0 0 0 0 (sp_X7_oneIf ca) 83 := rfl
theorem k_X4_passTick_83 (ca : Nat → ClassId) : k_X4_passTick ca 83 = i_bin (fun x y => x + y) 84 := rfl
theorem k_X4_passTick_84 (ca : Nat → ClassId) : k_X4_passTick ca 84 = i_istore 1 85 := rfl
theorem k_X4_passTick_85 (ca : Nat → ClassId) : k_X4_passTick ca 85 = i_iinc 2 1 88 := rfl
theorem k_X4_passTick_88 (ca : Nat → ClassId) : k_X4_passTick ca 88 = i_goto 28 := rfl
theorem k_X4_passTick_91 (ca : Nat → ClassId) : k_X4_passTick ca 91 = i_aload 0 92 := rfl
theorem k_X4_passTick_92 (ca : Nat → ClassId) : k_X4_passTick ca 92 = i_dup 93 := rfl
theorem k_X4_passTick_93 (ca : Nat → ClassId) : k_X4_passTick ca 93 = i_getf 4 5 96 := rfl
theorem k_X4_passTick_96 (ca : Nat → ClassId) : k_X4_passTick ca 96 = i_push (.int 1) 97 := rfl
theorem k_X4_passTick_97 (ca : Nat → ClassId) : k_X4_passTick ca 97 = i_bin (fun x y => x + y) 98 := rfl
theorem k_X4_passTick_98 (ca : Nat → ClassId) : k_X4_passTick ca 98 = i_puti 4 5 101 := rfl
theorem k_X4_passTick_101 (ca : Nat → ClassId) : k_X4_passTick ca 101 = i_iload 1 102 := rfl
theorem k_X4_passTick_102 (ca : Nat → ClassId) : k_X4_passTick ca 102 = i_ret := rfl
set_option maxHeartbeats 4000000 in
set_option maxRecDepth 20000 in
theorem ok_X4_passTick (l : Launch) (D : va_G) (ca : Nat → ClassId) : OkAll l D ca yX4_passTick cX4_passTick 3 (some .int) 3 0 0 (sp_X4_passTick ca) := by
  intro av h post hs
  obtain ⟨b, s, r, rfl, hb, hS, hR, hs⟩ := hs
  have hbe : ∀ i j, (b i = b j) = (i = j) := fun i j => propext (hb i j)
  refine okM_of t_X4_passTick (by decide +kernel) (c1_ref c1_nil) (Nat.le_of_ble_eq_true rfl) ?_
  intro K go
  have it : ∀ k, k < 3 → ∀ (h : PH) (s v : Nat → Int32) (n : Int32), SAt ca h b s → Ar h (b 5) (ca 0) 3 r → Ar h (b 6) (ca 0) 3 v → (∀ h', SAt ca h' b (stT s r v k) → Ar h' (b 5) (ca 0) 3 r → Ar h' (b 6) (ca 0) 3 v → Same b h h' → K 0 0 28 [some (.ref (b 0)), some (.int (n + stN s r v k)), some (.int (nI k + 1))] [] h') → K 0 0 28 [some (.ref (b 0)), some (.int n), some (.int (nI k))] [] h := by
    intro k hk h s v n hS hR hV hn
    obtain ⟨x0, ⟨xf1, xa1, xx1⟩, ⟨xf2, xa2, xx2⟩, ⟨xf3, xa3, xx3⟩, ⟨xf4, xa4, xx4⟩, ⟨xf5, xa5⟩, ⟨xf6, xa6⟩, ⟨xt7, ⟨xf8, xa8, xx8⟩, ⟨xf9, xa9, xx9⟩, ⟨xf10, xa10, xx10⟩⟩, xr11, ⟨xt12, ⟨xf13, xa13, xx13⟩, ⟨xf14, xa14, xx14⟩, ⟨xf15, xa15, xx15⟩⟩, xr16, ⟨xt17, ⟨xf18, xa18, xx18⟩, ⟨xf19, xa19, xx19⟩, ⟨xf20, xa20, xx20⟩⟩, xr21⟩ := id hS
    have xq30 : xf3 0 = some (b 7) := xx3 0 (by decide)
    have xq40 : xf4 0 = some (b 11) := xx4 0 (by decide)
    have xq31 : xf3 1 = some (b 12) := xx3 1 (by decide)
    have xq41 : xf4 1 = some (b 16) := xx4 1 (by decide)
    have xq32 : xf3 2 = some (b 17) := xx3 2 (by decide)
    have xq42 : xf4 2 = some (b 21) := xx4 2 (by decide)
    obtain ⟨fv, av, ev⟩ := id hV
    have hk3 : k = 0 ∨ k = 1 ∨ k = 2 := by omega
    rcases hk3 with rfl | rfl | rfl
    · have z := ev 0 (by decide)
      rw [nI_0] at hn ⊢
      refine go (stp [28, 80]) 40 _ _ _ _ _ _ ?_
      simp only [wpS, ite_not, i_push, i_iload, i_lload, i_aload, i_istore, i_astore, i_lstore, i_iinc, i_bin, i_dv, i_un, i_lbin, i_lsh, i_i2l, i_l2i, i_lcmp, i_dup, i_dup2, i_pop, i_if, i_icmp, i_goto, swG, i_sw, i_getf, i_puti, i_putz, i_putr, i_ald, i_lald, i_aald, i_ast, i_last, i_aast, i_alen, i_new, i_newi, i_newl, i_newq, i_oinit, i_ret, i_zret, i_lret, i_vret, catS, tk, rpush, isO, i_m1, i_m2, i_acopy, i_callV, i_callS, KRet, lget, lput, lputL, lcl0, isL, lv0, List.map_cons, List.map_nil, List.length_cons, List.length_nil, List.cons_append, List.nil_append, Nat.reduceAdd, Nat.reduceSub, Nat.reduceLeDiff, List.replicate_succ, List.replicate_zero, List.getElem?_cons_succ, List.getElem?_cons_zero, List.set_cons_succ, List.set_cons_zero, true_and, and_true, if_true, if_false, reduceIte, Nat.le_refl, Value.category, va_up_app, eq_self, stp, Nat.reduceBEq, Bool.or_false, Bool.false_or, Bool.true_or, Bool.or_true, or_true, true_or, bx_uu, implies_true, true_implies, not_true, not_false_eq_true, false_implies, and_self, Nat.reduceLT, Int32.reduceAdd, Int32.reduceSub, Int32.reduceMul, Int32.reduceLE, Int32.reduceLT, Int32.reduceToNatClampNeg, va_rf_some, Bool.false_eq_true, k_X4_passTick_0 ca, k_X4_passTick_1 ca, k_X4_passTick_2 ca, k_X4_passTick_3 ca, k_X4_passTick_4 ca, k_X4_passTick_7 ca, k_X4_passTick_8 ca, k_X4_passTick_11 ca, k_X4_passTick_12 ca, k_X4_passTick_13 ca, k_X4_passTick_14 ca, k_X4_passTick_17 ca, k_X4_passTick_18 ca, k_X4_passTick_21 ca, k_X4_passTick_24 ca, k_X4_passTick_25 ca, k_X4_passTick_26 ca, k_X4_passTick_27 ca, k_X4_passTick_28 ca, k_X4_passTick_29 ca, k_X4_passTick_30 ca, k_X4_passTick_33 ca, k_X4_passTick_34 ca, k_X4_passTick_37 ca, k_X4_passTick_38 ca, k_X4_passTick_39 ca, k_X4_passTick_40 ca, k_X4_passTick_43 ca, k_X4_passTick_44 ca, k_X4_passTick_47 ca, k_X4_passTick_48 ca, k_X4_passTick_49 ca, k_X4_passTick_52 ca, k_X4_passTick_55 ca, k_X4_passTick_56 ca, k_X4_passTick_59 ca, k_X4_passTick_60 ca, k_X4_passTick_63 ca, k_X4_passTick_64 ca, k_X4_passTick_65 ca, k_X4_passTick_66 ca, k_X4_passTick_69 ca, k_X4_passTick_70 ca, k_X4_passTick_71 ca, k_X4_passTick_74 ca, k_X4_passTick_75 ca, k_X4_passTick_76 ca, k_X4_passTick_77 ca, k_X4_passTick_80 ca, k_X4_passTick_83 ca, k_X4_passTick_84 ca, k_X4_passTick_85 ca, k_X4_passTick_88 ca, k_X4_passTick_91 ca, k_X4_passTick_92 ca, k_X4_passTick_93 ca, k_X4_passTick_96 ca, k_X4_passTick_97 ca, k_X4_passTick_98 ca, k_X4_passTick_101 ca, k_X4_passTick_102 ca, eState, eStrip, eRoom, x0, xa1, xa2, xa3, xa4, xa5, xa8, xa9, xa10, xa13, xa14, xa15, xa18, xa19, xa20, xt7, xt12, xt17, xr11, xr16, xr21, xq30, xq31, xq32, xq40, xq41, xq42, av, z, v03, v13, v23, sp_X5_isClosed, sp_X7_oneIf, sp_X2_come, hbe, Nat.reduceEqDiff, b2i_0, b2i_01]
      have hS1 : SAt ca (va_up h (b 11) (some (eRoom (roomT s 0 (v 0))))) b (stR s v 0) := SAt_room0 hb hS _
      refine ⟨b, stR s v 0, 0, r, by omega, rfl, hb, hS1, Ar_ne hR (fun z => absurd ((hb 5 11).mp z) (by decide)), ?_⟩
      have hS2 := SAt_strip0 hb hS1 (mvT (fun i => stR s v 0 (10 + 32 * 0 + i)) (stR s v 0 6) (stR s v 0 7) (r 0 * (stR s v 0 (106 + 7 * 0) - 200)))
      refine go (stp [28]) 8 _ _ _ _ _ _ ?_
      simp only [wpS, ite_not, i_push, i_iload, i_lload, i_aload, i_istore, i_astore, i_lstore, i_iinc, i_bin, i_dv, i_un, i_lbin, i_lsh, i_i2l, i_l2i, i_lcmp, i_dup, i_dup2, i_pop, i_if, i_icmp, i_goto, swG, i_sw, i_getf, i_puti, i_putz, i_putr, i_ald, i_lald, i_aald, i_ast, i_last, i_aast, i_alen, i_new, i_newi, i_newl, i_newq, i_oinit, i_ret, i_zret, i_lret, i_vret, catS, tk, rpush, isO, i_m1, i_m2, i_acopy, i_callV, i_callS, KRet, lget, lput, lputL, lcl0, isL, lv0, List.map_cons, List.map_nil, List.length_cons, List.length_nil, List.cons_append, List.nil_append, Nat.reduceAdd, Nat.reduceSub, Nat.reduceLeDiff, List.replicate_succ, List.replicate_zero, List.getElem?_cons_succ, List.getElem?_cons_zero, List.set_cons_succ, List.set_cons_zero, true_and, and_true, if_true, if_false, reduceIte, Nat.le_refl, Value.category, va_up_app, eq_self, stp, Nat.reduceBEq, Bool.or_false, Bool.false_or, Bool.true_or, Bool.or_true, or_true, true_or, bx_uu, implies_true, true_implies, not_true, not_false_eq_true, false_implies, and_self, Nat.reduceLT, Int32.reduceAdd, Int32.reduceSub, Int32.reduceMul, Int32.reduceLE, Int32.reduceLT, Int32.reduceToNatClampNeg, va_rf_some, Bool.false_eq_true, k_X4_passTick_0 ca, k_X4_passTick_1 ca, k_X4_passTick_2 ca, k_X4_passTick_3 ca, k_X4_passTick_4 ca, k_X4_passTick_7 ca, k_X4_passTick_8 ca, k_X4_passTick_11 ca, k_X4_passTick_12 ca, k_X4_passTick_13 ca, k_X4_passTick_14 ca, k_X4_passTick_17 ca, k_X4_passTick_18 ca, k_X4_passTick_21 ca, k_X4_passTick_24 ca, k_X4_passTick_25 ca, k_X4_passTick_26 ca, k_X4_passTick_27 ca, k_X4_passTick_28 ca, k_X4_passTick_29 ca, k_X4_passTick_30 ca, k_X4_passTick_33 ca, k_X4_passTick_34 ca, k_X4_passTick_37 ca, k_X4_passTick_38 ca, k_X4_passTick_39 ca, k_X4_passTick_40 ca, k_X4_passTick_43 ca, k_X4_passTick_44 ca, k_X4_passTick_47 ca, k_X4_passTick_48 ca, k_X4_passTick_49 ca, k_X4_passTick_52 ca, k_X4_passTick_55 ca, k_X4_passTick_56 ca, k_X4_passTick_59 ca, k_X4_passTick_60 ca, k_X4_passTick_63 ca, k_X4_passTick_64 ca, k_X4_passTick_65 ca, k_X4_passTick_66 ca, k_X4_passTick_69 ca, k_X4_passTick_70 ca, k_X4_passTick_71 ca, k_X4_passTick_74 ca, k_X4_passTick_75 ca, k_X4_passTick_76 ca, k_X4_passTick_77 ca, k_X4_passTick_80 ca, k_X4_passTick_83 ca, k_X4_passTick_84 ca, k_X4_passTick_85 ca, k_X4_passTick_88 ca, k_X4_passTick_91 ca, k_X4_passTick_92 ca, k_X4_passTick_93 ca, k_X4_passTick_96 ca, k_X4_passTick_97 ca, k_X4_passTick_98 ca, k_X4_passTick_101 ca, k_X4_passTick_102 ca, sp_X7_oneIf, b2i_0]
      exact hn _ hS2 (Ar_ne (Ar_ne hR (fun z => absurd ((hb 5 11).mp z) (by decide))) (fun z => absurd ((hb 5 7).mp z) (by decide))) (Ar_ne (Ar_ne hV (fun z => absurd ((hb 6 11).mp z) (by decide))) (fun z => absurd ((hb 6 7).mp z) (by decide))) (Same_tr (Same_up (by decide) _) (Same_up (by decide) _))
    · have z := ev 1 (by decide)
      rw [n1] at hn ⊢
      refine go (stp [28, 80]) 40 _ _ _ _ _ _ ?_
      simp only [wpS, ite_not, i_push, i_iload, i_lload, i_aload, i_istore, i_astore, i_lstore, i_iinc, i_bin, i_dv, i_un, i_lbin, i_lsh, i_i2l, i_l2i, i_lcmp, i_dup, i_dup2, i_pop, i_if, i_icmp, i_goto, swG, i_sw, i_getf, i_puti, i_putz, i_putr, i_ald, i_lald, i_aald, i_ast, i_last, i_aast, i_alen, i_new, i_newi, i_newl, i_newq, i_oinit, i_ret, i_zret, i_lret, i_vret, catS, tk, rpush, isO, i_m1, i_m2, i_acopy, i_callV, i_callS, KRet, lget, lput, lputL, lcl0, isL, lv0, List.map_cons, List.map_nil, List.length_cons, List.length_nil, List.cons_append, List.nil_append, Nat.reduceAdd, Nat.reduceSub, Nat.reduceLeDiff, List.replicate_succ, List.replicate_zero, List.getElem?_cons_succ, List.getElem?_cons_zero, List.set_cons_succ, List.set_cons_zero, true_and, and_true, if_true, if_false, reduceIte, Nat.le_refl, Value.category, va_up_app, eq_self, stp, Nat.reduceBEq, Bool.or_false, Bool.false_or, Bool.true_or, Bool.or_true, or_true, true_or, bx_uu, implies_true, true_implies, not_true, not_false_eq_true, false_implies, and_self, Nat.reduceLT, Int32.reduceAdd, Int32.reduceSub, Int32.reduceMul, Int32.reduceLE, Int32.reduceLT, Int32.reduceToNatClampNeg, va_rf_some, Bool.false_eq_true, k_X4_passTick_0 ca, k_X4_passTick_1 ca, k_X4_passTick_2 ca, k_X4_passTick_3 ca, k_X4_passTick_4 ca, k_X4_passTick_7 ca, k_X4_passTick_8 ca, k_X4_passTick_11 ca, k_X4_passTick_12 ca, k_X4_passTick_13 ca, k_X4_passTick_14 ca, k_X4_passTick_17 ca, k_X4_passTick_18 ca, k_X4_passTick_21 ca, k_X4_passTick_24 ca, k_X4_passTick_25 ca, k_X4_passTick_26 ca, k_X4_passTick_27 ca, k_X4_passTick_28 ca, k_X4_passTick_29 ca, k_X4_passTick_30 ca, k_X4_passTick_33 ca, k_X4_passTick_34 ca, k_X4_passTick_37 ca, k_X4_passTick_38 ca, k_X4_passTick_39 ca, k_X4_passTick_40 ca, k_X4_passTick_43 ca, k_X4_passTick_44 ca, k_X4_passTick_47 ca, k_X4_passTick_48 ca, k_X4_passTick_49 ca, k_X4_passTick_52 ca, k_X4_passTick_55 ca, k_X4_passTick_56 ca, k_X4_passTick_59 ca, k_X4_passTick_60 ca, k_X4_passTick_63 ca, k_X4_passTick_64 ca, k_X4_passTick_65 ca, k_X4_passTick_66 ca, k_X4_passTick_69 ca, k_X4_passTick_70 ca, k_X4_passTick_71 ca, k_X4_passTick_74 ca, k_X4_passTick_75 ca, k_X4_passTick_76 ca, k_X4_passTick_77 ca, k_X4_passTick_80 ca, k_X4_passTick_83 ca, k_X4_passTick_84 ca, k_X4_passTick_85 ca, k_X4_passTick_88 ca, k_X4_passTick_91 ca, k_X4_passTick_92 ca, k_X4_passTick_93 ca, k_X4_passTick_96 ca, k_X4_passTick_97 ca, k_X4_passTick_98 ca, k_X4_passTick_101 ca, k_X4_passTick_102 ca, eState, eStrip, eRoom, x0, xa1, xa2, xa3, xa4, xa5, xa8, xa9, xa10, xa13, xa14, xa15, xa18, xa19, xa20, xt7, xt12, xt17, xr11, xr16, xr21, xq30, xq31, xq32, xq40, xq41, xq42, av, z, v03, v13, v23, sp_X5_isClosed, sp_X7_oneIf, sp_X2_come, hbe, Nat.reduceEqDiff, b2i_0, b2i_01]
      have hS1 : SAt ca (va_up h (b 16) (some (eRoom (roomT s 1 (v 1))))) b (stR s v 1) := SAt_room1 hb hS _
      refine ⟨b, stR s v 1, 1, r, by omega, rfl, hb, hS1, Ar_ne hR (fun z => absurd ((hb 5 16).mp z) (by decide)), ?_⟩
      have hS2 := SAt_strip1 hb hS1 (mvT (fun i => stR s v 1 (10 + 32 * 1 + i)) (stR s v 1 6) (stR s v 1 7) (r 1 * (stR s v 1 (106 + 7 * 1) - 200)))
      refine go (stp [28]) 8 _ _ _ _ _ _ ?_
      simp only [wpS, ite_not, i_push, i_iload, i_lload, i_aload, i_istore, i_astore, i_lstore, i_iinc, i_bin, i_dv, i_un, i_lbin, i_lsh, i_i2l, i_l2i, i_lcmp, i_dup, i_dup2, i_pop, i_if, i_icmp, i_goto, swG, i_sw, i_getf, i_puti, i_putz, i_putr, i_ald, i_lald, i_aald, i_ast, i_last, i_aast, i_alen, i_new, i_newi, i_newl, i_newq, i_oinit, i_ret, i_zret, i_lret, i_vret, catS, tk, rpush, isO, i_m1, i_m2, i_acopy, i_callV, i_callS, KRet, lget, lput, lputL, lcl0, isL, lv0, List.map_cons, List.map_nil, List.length_cons, List.length_nil, List.cons_append, List.nil_append, Nat.reduceAdd, Nat.reduceSub, Nat.reduceLeDiff, List.replicate_succ, List.replicate_zero, List.getElem?_cons_succ, List.getElem?_cons_zero, List.set_cons_succ, List.set_cons_zero, true_and, and_true, if_true, if_false, reduceIte, Nat.le_refl, Value.category, va_up_app, eq_self, stp, Nat.reduceBEq, Bool.or_false, Bool.false_or, Bool.true_or, Bool.or_true, or_true, true_or, bx_uu, implies_true, true_implies, not_true, not_false_eq_true, false_implies, and_self, Nat.reduceLT, Int32.reduceAdd, Int32.reduceSub, Int32.reduceMul, Int32.reduceLE, Int32.reduceLT, Int32.reduceToNatClampNeg, va_rf_some, Bool.false_eq_true, k_X4_passTick_0 ca, k_X4_passTick_1 ca, k_X4_passTick_2 ca, k_X4_passTick_3 ca, k_X4_passTick_4 ca, k_X4_passTick_7 ca, k_X4_passTick_8 ca, k_X4_passTick_11 ca, k_X4_passTick_12 ca, k_X4_passTick_13 ca, k_X4_passTick_14 ca, k_X4_passTick_17 ca, k_X4_passTick_18 ca, k_X4_passTick_21 ca, k_X4_passTick_24 ca, k_X4_passTick_25 ca, k_X4_passTick_26 ca, k_X4_passTick_27 ca, k_X4_passTick_28 ca, k_X4_passTick_29 ca, k_X4_passTick_30 ca, k_X4_passTick_33 ca, k_X4_passTick_34 ca, k_X4_passTick_37 ca, k_X4_passTick_38 ca, k_X4_passTick_39 ca, k_X4_passTick_40 ca, k_X4_passTick_43 ca, k_X4_passTick_44 ca, k_X4_passTick_47 ca, k_X4_passTick_48 ca, k_X4_passTick_49 ca, k_X4_passTick_52 ca, k_X4_passTick_55 ca, k_X4_passTick_56 ca, k_X4_passTick_59 ca, k_X4_passTick_60 ca, k_X4_passTick_63 ca, k_X4_passTick_64 ca, k_X4_passTick_65 ca, k_X4_passTick_66 ca, k_X4_passTick_69 ca, k_X4_passTick_70 ca, k_X4_passTick_71 ca, k_X4_passTick_74 ca, k_X4_passTick_75 ca, k_X4_passTick_76 ca, k_X4_passTick_77 ca, k_X4_passTick_80 ca, k_X4_passTick_83 ca, k_X4_passTick_84 ca, k_X4_passTick_85 ca, k_X4_passTick_88 ca, k_X4_passTick_91 ca, k_X4_passTick_92 ca, k_X4_passTick_93 ca, k_X4_passTick_96 ca, k_X4_passTick_97 ca, k_X4_passTick_98 ca, k_X4_passTick_101 ca, k_X4_passTick_102 ca, sp_X7_oneIf, b2i_0]
      exact hn _ hS2 (Ar_ne (Ar_ne hR (fun z => absurd ((hb 5 16).mp z) (by decide))) (fun z => absurd ((hb 5 12).mp z) (by decide))) (Ar_ne (Ar_ne hV (fun z => absurd ((hb 6 16).mp z) (by decide))) (fun z => absurd ((hb 6 12).mp z) (by decide))) (Same_tr (Same_up (by decide) _) (Same_up (by decide) _))
    · have z := ev 2 (by decide)
      rw [n2] at hn ⊢
      refine go (stp [28, 80]) 40 _ _ _ _ _ _ ?_
      simp only [wpS, ite_not, i_push, i_iload, i_lload, i_aload, i_istore, i_astore, i_lstore, i_iinc, i_bin, i_dv, i_un, i_lbin, i_lsh, i_i2l, i_l2i, i_lcmp, i_dup, i_dup2, i_pop, i_if, i_icmp, i_goto, swG, i_sw, i_getf, i_puti, i_putz, i_putr, i_ald, i_lald, i_aald, i_ast, i_last, i_aast, i_alen, i_new, i_newi, i_newl, i_newq, i_oinit, i_ret, i_zret, i_lret, i_vret, catS, tk, rpush, isO, i_m1, i_m2, i_acopy, i_callV, i_callS, KRet, lget, lput, lputL, lcl0, isL, lv0, List.map_cons, List.map_nil, List.length_cons, List.length_nil, List.cons_append, List.nil_append, Nat.reduceAdd, Nat.reduceSub, Nat.reduceLeDiff, List.replicate_succ, List.replicate_zero, List.getElem?_cons_succ, List.getElem?_cons_zero, List.set_cons_succ, List.set_cons_zero, true_and, and_true, if_true, if_false, reduceIte, Nat.le_refl, Value.category, va_up_app, eq_self, stp, Nat.reduceBEq, Bool.or_false, Bool.false_or, Bool.true_or, Bool.or_true, or_true, true_or, bx_uu, implies_true, true_implies, not_true, not_false_eq_true, false_implies, and_self, Nat.reduceLT, Int32.reduceAdd, Int32.reduceSub, Int32.reduceMul, Int32.reduceLE, Int32.reduceLT, Int32.reduceToNatClampNeg, va_rf_some, Bool.false_eq_true, k_X4_passTick_0 ca, k_X4_passTick_1 ca, k_X4_passTick_2 ca, k_X4_passTick_3 ca, k_X4_passTick_4 ca, k_X4_passTick_7 ca, k_X4_passTick_8 ca, k_X4_passTick_11 ca, k_X4_passTick_12 ca, k_X4_passTick_13 ca, k_X4_passTick_14 ca, k_X4_passTick_17 ca, k_X4_passTick_18 ca, k_X4_passTick_21 ca, k_X4_passTick_24 ca, k_X4_passTick_25 ca, k_X4_passTick_26 ca, k_X4_passTick_27 ca, k_X4_passTick_28 ca, k_X4_passTick_29 ca, k_X4_passTick_30 ca, k_X4_passTick_33 ca, k_X4_passTick_34 ca, k_X4_passTick_37 ca, k_X4_passTick_38 ca, k_X4_passTick_39 ca, k_X4_passTick_40 ca, k_X4_passTick_43 ca, k_X4_passTick_44 ca, k_X4_passTick_47 ca, k_X4_passTick_48 ca, k_X4_passTick_49 ca, k_X4_passTick_52 ca, k_X4_passTick_55 ca, k_X4_passTick_56 ca, k_X4_passTick_59 ca, k_X4_passTick_60 ca, k_X4_passTick_63 ca, k_X4_passTick_64 ca, k_X4_passTick_65 ca, k_X4_passTick_66 ca, k_X4_passTick_69 ca, k_X4_passTick_70 ca, k_X4_passTick_71 ca, k_X4_passTick_74 ca, k_X4_passTick_75 ca, k_X4_passTick_76 ca, k_X4_passTick_77 ca, k_X4_passTick_80 ca, k_X4_passTick_83 ca, k_X4_passTick_84 ca, k_X4_passTick_85 ca, k_X4_passTick_88 ca, k_X4_passTick_91 ca, k_X4_passTick_92 ca, k_X4_passTick_93 ca, k_X4_passTick_96 ca, k_X4_passTick_97 ca, k_X4_passTick_98 ca, k_X4_passTick_101 ca, k_X4_passTick_102 ca, eState, eStrip, eRoom, x0, xa1, xa2, xa3, xa4, xa5, xa8, xa9, xa10, xa13, xa14, xa15, xa18, xa19, xa20, xt7, xt12, xt17, xr11, xr16, xr21, xq30, xq31, xq32, xq40, xq41, xq42, av, z, v03, v13, v23, sp_X5_isClosed, sp_X7_oneIf, sp_X2_come, hbe, Nat.reduceEqDiff, b2i_0, b2i_01]
      have hS1 : SAt ca (va_up h (b 21) (some (eRoom (roomT s 2 (v 2))))) b (stR s v 2) := SAt_room2 hb hS _
      refine ⟨b, stR s v 2, 2, r, by omega, rfl, hb, hS1, Ar_ne hR (fun z => absurd ((hb 5 21).mp z) (by decide)), ?_⟩
      have hS2 := SAt_strip2 hb hS1 (mvT (fun i => stR s v 2 (10 + 32 * 2 + i)) (stR s v 2 6) (stR s v 2 7) (r 2 * (stR s v 2 (106 + 7 * 2) - 200)))
      refine go (stp [28]) 8 _ _ _ _ _ _ ?_
      simp only [wpS, ite_not, i_push, i_iload, i_lload, i_aload, i_istore, i_astore, i_lstore, i_iinc, i_bin, i_dv, i_un, i_lbin, i_lsh, i_i2l, i_l2i, i_lcmp, i_dup, i_dup2, i_pop, i_if, i_icmp, i_goto, swG, i_sw, i_getf, i_puti, i_putz, i_putr, i_ald, i_lald, i_aald, i_ast, i_last, i_aast, i_alen, i_new, i_newi, i_newl, i_newq, i_oinit, i_ret, i_zret, i_lret, i_vret, catS, tk, rpush, isO, i_m1, i_m2, i_acopy, i_callV, i_callS, KRet, lget, lput, lputL, lcl0, isL, lv0, List.map_cons, List.map_nil, List.length_cons, List.length_nil, List.cons_append, List.nil_append, Nat.reduceAdd, Nat.reduceSub, Nat.reduceLeDiff, List.replicate_succ, List.replicate_zero, List.getElem?_cons_succ, List.getElem?_cons_zero, List.set_cons_succ, List.set_cons_zero, true_and, and_true, if_true, if_false, reduceIte, Nat.le_refl, Value.category, va_up_app, eq_self, stp, Nat.reduceBEq, Bool.or_false, Bool.false_or, Bool.true_or, Bool.or_true, or_true, true_or, bx_uu, implies_true, true_implies, not_true, not_false_eq_true, false_implies, and_self, Nat.reduceLT, Int32.reduceAdd, Int32.reduceSub, Int32.reduceMul, Int32.reduceLE, Int32.reduceLT, Int32.reduceToNatClampNeg, va_rf_some, Bool.false_eq_true, k_X4_passTick_0 ca, k_X4_passTick_1 ca, k_X4_passTick_2 ca, k_X4_passTick_3 ca, k_X4_passTick_4 ca, k_X4_passTick_7 ca, k_X4_passTick_8 ca, k_X4_passTick_11 ca, k_X4_passTick_12 ca, k_X4_passTick_13 ca, k_X4_passTick_14 ca, k_X4_passTick_17 ca, k_X4_passTick_18 ca, k_X4_passTick_21 ca, k_X4_passTick_24 ca, k_X4_passTick_25 ca, k_X4_passTick_26 ca, k_X4_passTick_27 ca, k_X4_passTick_28 ca, k_X4_passTick_29 ca, k_X4_passTick_30 ca, k_X4_passTick_33 ca, k_X4_passTick_34 ca, k_X4_passTick_37 ca, k_X4_passTick_38 ca, k_X4_passTick_39 ca, k_X4_passTick_40 ca, k_X4_passTick_43 ca, k_X4_passTick_44 ca, k_X4_passTick_47 ca, k_X4_passTick_48 ca, k_X4_passTick_49 ca, k_X4_passTick_52 ca, k_X4_passTick_55 ca, k_X4_passTick_56 ca, k_X4_passTick_59 ca, k_X4_passTick_60 ca, k_X4_passTick_63 ca, k_X4_passTick_64 ca, k_X4_passTick_65 ca, k_X4_passTick_66 ca, k_X4_passTick_69 ca, k_X4_passTick_70 ca, k_X4_passTick_71 ca, k_X4_passTick_74 ca, k_X4_passTick_75 ca, k_X4_passTick_76 ca, k_X4_passTick_77 ca, k_X4_passTick_80 ca, k_X4_passTick_83 ca, k_X4_passTick_84 ca, k_X4_passTick_85 ca, k_X4_passTick_88 ca, k_X4_passTick_91 ca, k_X4_passTick_92 ca, k_X4_passTick_93 ca, k_X4_passTick_96 ca, k_X4_passTick_97 ca, k_X4_passTick_98 ca, k_X4_passTick_101 ca, k_X4_passTick_102 ca, sp_X7_oneIf, b2i_0]
      exact hn _ hS2 (Ar_ne (Ar_ne hR (fun z => absurd ((hb 5 21).mp z) (by decide))) (fun z => absurd ((hb 5 17).mp z) (by decide))) (Ar_ne (Ar_ne hV (fun z => absurd ((hb 6 21).mp z) (by decide))) (fun z => absurd ((hb 6 17).mp z) (by decide))) (Same_tr (Same_up (by decide) _) (Same_up (by decide) _))
  obtain ⟨x0, ⟨xf1, xa1, xx1⟩, ⟨xf2, xa2, xx2⟩, ⟨xf3, xa3, xx3⟩, ⟨xf4, xa4, xx4⟩, ⟨xf5, xa5⟩, ⟨xf6, xa6⟩, ⟨xt7, ⟨xf8, xa8, xx8⟩, ⟨xf9, xa9, xx9⟩, ⟨xf10, xa10, xx10⟩⟩, xr11, ⟨xt12, ⟨xf13, xa13, xx13⟩, ⟨xf14, xa14, xx14⟩, ⟨xf15, xa15, xx15⟩⟩, xr16, ⟨xt17, ⟨xf18, xa18, xx18⟩, ⟨xf19, xa19, xx19⟩, ⟨xf20, xa20, xx20⟩⟩, xr21⟩ := id hS
  have xq30 : xf3 0 = some (b 7) := xx3 0 (by decide)
  have xq40 : xf4 0 = some (b 11) := xx4 0 (by decide)
  have xq31 : xf3 1 = some (b 12) := xx3 1 (by decide)
  have xq41 : xf4 1 = some (b 16) := xx4 1 (by decide)
  have xq32 : xf3 2 = some (b 17) := xx3 2 (by decide)
  have xq42 : xf4 2 = some (b 21) := xx4 2 (by decide)
  refine go (stp [17]) 16 _ _ _ _ _ _ ?_
  simp only [wpS, ite_not, i_push, i_iload, i_lload, i_aload, i_istore, i_astore, i_lstore, i_iinc, i_bin, i_dv, i_un, i_lbin, i_lsh, i_i2l, i_l2i, i_lcmp, i_dup, i_dup2, i_pop, i_if, i_icmp, i_goto, swG, i_sw, i_getf, i_puti, i_putz, i_putr, i_ald, i_lald, i_aald, i_ast, i_last, i_aast, i_alen, i_new, i_newi, i_newl, i_newq, i_oinit, i_ret, i_zret, i_lret, i_vret, catS, tk, rpush, isO, i_m1, i_m2, i_acopy, i_callV, i_callS, KRet, lget, lput, lputL, lcl0, isL, lv0, List.map_cons, List.map_nil, List.length_cons, List.length_nil, List.cons_append, List.nil_append, Nat.reduceAdd, Nat.reduceSub, Nat.reduceLeDiff, List.replicate_succ, List.replicate_zero, List.getElem?_cons_succ, List.getElem?_cons_zero, List.set_cons_succ, List.set_cons_zero, true_and, and_true, if_true, if_false, reduceIte, Nat.le_refl, Value.category, va_up_app, eq_self, stp, Nat.reduceBEq, Bool.or_false, Bool.false_or, Bool.true_or, Bool.or_true, or_true, true_or, bx_uu, implies_true, true_implies, not_true, not_false_eq_true, false_implies, and_self, Nat.reduceLT, Int32.reduceAdd, Int32.reduceSub, Int32.reduceMul, Int32.reduceLE, Int32.reduceLT, Int32.reduceToNatClampNeg, va_rf_some, Bool.false_eq_true, k_X4_passTick_0 ca, k_X4_passTick_1 ca, k_X4_passTick_2 ca, k_X4_passTick_3 ca, k_X4_passTick_4 ca, k_X4_passTick_7 ca, k_X4_passTick_8 ca, k_X4_passTick_11 ca, k_X4_passTick_12 ca, k_X4_passTick_13 ca, k_X4_passTick_14 ca, k_X4_passTick_17 ca, k_X4_passTick_18 ca, k_X4_passTick_21 ca, k_X4_passTick_24 ca, k_X4_passTick_25 ca, k_X4_passTick_26 ca, k_X4_passTick_27 ca, k_X4_passTick_28 ca, k_X4_passTick_29 ca, k_X4_passTick_30 ca, k_X4_passTick_33 ca, k_X4_passTick_34 ca, k_X4_passTick_37 ca, k_X4_passTick_38 ca, k_X4_passTick_39 ca, k_X4_passTick_40 ca, k_X4_passTick_43 ca, k_X4_passTick_44 ca, k_X4_passTick_47 ca, k_X4_passTick_48 ca, k_X4_passTick_49 ca, k_X4_passTick_52 ca, k_X4_passTick_55 ca, k_X4_passTick_56 ca, k_X4_passTick_59 ca, k_X4_passTick_60 ca, k_X4_passTick_63 ca, k_X4_passTick_64 ca, k_X4_passTick_65 ca, k_X4_passTick_66 ca, k_X4_passTick_69 ca, k_X4_passTick_70 ca, k_X4_passTick_71 ca, k_X4_passTick_74 ca, k_X4_passTick_75 ca, k_X4_passTick_76 ca, k_X4_passTick_77 ca, k_X4_passTick_80 ca, k_X4_passTick_83 ca, k_X4_passTick_84 ca, k_X4_passTick_85 ca, k_X4_passTick_88 ca, k_X4_passTick_91 ca, k_X4_passTick_92 ca, k_X4_passTick_93 ca, k_X4_passTick_96 ca, k_X4_passTick_97 ca, k_X4_passTick_98 ca, k_X4_passTick_101 ca, k_X4_passTick_102 ca, eState, eStrip, eRoom, x0, xa1, xa2, xa3, xa4, xa5, xa6, xa8, xa9, xa10, xa13, xa14, xa15, xa18, xa19, xa20, xt7, xt12, xt17, xr11, xr16, xr21, xq30, xq31, xq32, xq40, xq41, xq42, v03, v13, v23]
  refine ⟨b, s, 0, by omega, rfl, hS, ?_⟩
  refine go (stp [17]) 16 _ _ _ _ _ _ ?_
  simp only [wpS, ite_not, i_push, i_iload, i_lload, i_aload, i_istore, i_astore, i_lstore, i_iinc, i_bin, i_dv, i_un, i_lbin, i_lsh, i_i2l, i_l2i, i_lcmp, i_dup, i_dup2, i_pop, i_if, i_icmp, i_goto, swG, i_sw, i_getf, i_puti, i_putz, i_putr, i_ald, i_lald, i_aald, i_ast, i_last, i_aast, i_alen, i_new, i_newi, i_newl, i_newq, i_oinit, i_ret, i_zret, i_lret, i_vret, catS, tk, rpush, isO, i_m1, i_m2, i_acopy, i_callV, i_callS, KRet, lget, lput, lputL, lcl0, isL, lv0, List.map_cons, List.map_nil, List.length_cons, List.length_nil, List.cons_append, List.nil_append, Nat.reduceAdd, Nat.reduceSub, Nat.reduceLeDiff, List.replicate_succ, List.replicate_zero, List.getElem?_cons_succ, List.getElem?_cons_zero, List.set_cons_succ, List.set_cons_zero, true_and, and_true, if_true, if_false, reduceIte, Nat.le_refl, Value.category, va_up_app, eq_self, stp, Nat.reduceBEq, Bool.or_false, Bool.false_or, Bool.true_or, Bool.or_true, or_true, true_or, bx_uu, implies_true, true_implies, not_true, not_false_eq_true, false_implies, and_self, Nat.reduceLT, Int32.reduceAdd, Int32.reduceSub, Int32.reduceMul, Int32.reduceLE, Int32.reduceLT, Int32.reduceToNatClampNeg, va_rf_some, Bool.false_eq_true, k_X4_passTick_0 ca, k_X4_passTick_1 ca, k_X4_passTick_2 ca, k_X4_passTick_3 ca, k_X4_passTick_4 ca, k_X4_passTick_7 ca, k_X4_passTick_8 ca, k_X4_passTick_11 ca, k_X4_passTick_12 ca, k_X4_passTick_13 ca, k_X4_passTick_14 ca, k_X4_passTick_17 ca, k_X4_passTick_18 ca, k_X4_passTick_21 ca, k_X4_passTick_24 ca, k_X4_passTick_25 ca, k_X4_passTick_26 ca, k_X4_passTick_27 ca, k_X4_passTick_28 ca, k_X4_passTick_29 ca, k_X4_passTick_30 ca, k_X4_passTick_33 ca, k_X4_passTick_34 ca, k_X4_passTick_37 ca, k_X4_passTick_38 ca, k_X4_passTick_39 ca, k_X4_passTick_40 ca, k_X4_passTick_43 ca, k_X4_passTick_44 ca, k_X4_passTick_47 ca, k_X4_passTick_48 ca, k_X4_passTick_49 ca, k_X4_passTick_52 ca, k_X4_passTick_55 ca, k_X4_passTick_56 ca, k_X4_passTick_59 ca, k_X4_passTick_60 ca, k_X4_passTick_63 ca, k_X4_passTick_64 ca, k_X4_passTick_65 ca, k_X4_passTick_66 ca, k_X4_passTick_69 ca, k_X4_passTick_70 ca, k_X4_passTick_71 ca, k_X4_passTick_74 ca, k_X4_passTick_75 ca, k_X4_passTick_76 ca, k_X4_passTick_77 ca, k_X4_passTick_80 ca, k_X4_passTick_83 ca, k_X4_passTick_84 ca, k_X4_passTick_85 ca, k_X4_passTick_88 ca, k_X4_passTick_91 ca, k_X4_passTick_92 ca, k_X4_passTick_93 ca, k_X4_passTick_96 ca, k_X4_passTick_97 ca, k_X4_passTick_98 ca, k_X4_passTick_101 ca, k_X4_passTick_102 ca, eState, eStrip, eRoom, x0, xa1, xa2, xa3, xa4, xa5, xa6, xa8, xa9, xa10, xa13, xa14, xa15, xa18, xa19, xa20, xt7, xt12, xt17, xr11, xr16, xr21, xq30, xq31, xq32, xq40, xq41, xq42, v03, v13, v23, hbe, Nat.reduceEqDiff]
  refine ⟨b, s, 1, by omega, rfl, SAt_scr6 hb hS _, ?_⟩
  refine go (stp [17]) 16 _ _ _ _ _ _ ?_
  simp only [wpS, ite_not, i_push, i_iload, i_lload, i_aload, i_istore, i_astore, i_lstore, i_iinc, i_bin, i_dv, i_un, i_lbin, i_lsh, i_i2l, i_l2i, i_lcmp, i_dup, i_dup2, i_pop, i_if, i_icmp, i_goto, swG, i_sw, i_getf, i_puti, i_putz, i_putr, i_ald, i_lald, i_aald, i_ast, i_last, i_aast, i_alen, i_new, i_newi, i_newl, i_newq, i_oinit, i_ret, i_zret, i_lret, i_vret, catS, tk, rpush, isO, i_m1, i_m2, i_acopy, i_callV, i_callS, KRet, lget, lput, lputL, lcl0, isL, lv0, List.map_cons, List.map_nil, List.length_cons, List.length_nil, List.cons_append, List.nil_append, Nat.reduceAdd, Nat.reduceSub, Nat.reduceLeDiff, List.replicate_succ, List.replicate_zero, List.getElem?_cons_succ, List.getElem?_cons_zero, List.set_cons_succ, List.set_cons_zero, true_and, and_true, if_true, if_false, reduceIte, Nat.le_refl, Value.category, va_up_app, eq_self, stp, Nat.reduceBEq, Bool.or_false, Bool.false_or, Bool.true_or, Bool.or_true, or_true, true_or, bx_uu, implies_true, true_implies, not_true, not_false_eq_true, false_implies, and_self, Nat.reduceLT, Int32.reduceAdd, Int32.reduceSub, Int32.reduceMul, Int32.reduceLE, Int32.reduceLT, Int32.reduceToNatClampNeg, va_rf_some, Bool.false_eq_true, k_X4_passTick_0 ca, k_X4_passTick_1 ca, k_X4_passTick_2 ca, k_X4_passTick_3 ca, k_X4_passTick_4 ca, k_X4_passTick_7 ca, k_X4_passTick_8 ca, k_X4_passTick_11 ca, k_X4_passTick_12 ca, k_X4_passTick_13 ca, k_X4_passTick_14 ca, k_X4_passTick_17 ca, k_X4_passTick_18 ca, k_X4_passTick_21 ca, k_X4_passTick_24 ca, k_X4_passTick_25 ca, k_X4_passTick_26 ca, k_X4_passTick_27 ca, k_X4_passTick_28 ca, k_X4_passTick_29 ca, k_X4_passTick_30 ca, k_X4_passTick_33 ca, k_X4_passTick_34 ca, k_X4_passTick_37 ca, k_X4_passTick_38 ca, k_X4_passTick_39 ca, k_X4_passTick_40 ca, k_X4_passTick_43 ca, k_X4_passTick_44 ca, k_X4_passTick_47 ca, k_X4_passTick_48 ca, k_X4_passTick_49 ca, k_X4_passTick_52 ca, k_X4_passTick_55 ca, k_X4_passTick_56 ca, k_X4_passTick_59 ca, k_X4_passTick_60 ca, k_X4_passTick_63 ca, k_X4_passTick_64 ca, k_X4_passTick_65 ca, k_X4_passTick_66 ca, k_X4_passTick_69 ca, k_X4_passTick_70 ca, k_X4_passTick_71 ca, k_X4_passTick_74 ca, k_X4_passTick_75 ca, k_X4_passTick_76 ca, k_X4_passTick_77 ca, k_X4_passTick_80 ca, k_X4_passTick_83 ca, k_X4_passTick_84 ca, k_X4_passTick_85 ca, k_X4_passTick_88 ca, k_X4_passTick_91 ca, k_X4_passTick_92 ca, k_X4_passTick_93 ca, k_X4_passTick_96 ca, k_X4_passTick_97 ca, k_X4_passTick_98 ca, k_X4_passTick_101 ca, k_X4_passTick_102 ca, eState, eStrip, eRoom, x0, xa1, xa2, xa3, xa4, xa5, xa6, xa8, xa9, xa10, xa13, xa14, xa15, xa18, xa19, xa20, xt7, xt12, xt17, xr11, xr16, xr21, xq30, xq31, xq32, xq40, xq41, xq42, v03, v13, v23, hbe, Nat.reduceEqDiff]
  refine ⟨b, s, 2, by omega, rfl, SAt_scr6 hb hS _, ?_⟩
  refine go (stp [28]) 14 _ _ _ _ _ _ ?_
  simp only [wpS, ite_not, i_push, i_iload, i_lload, i_aload, i_istore, i_astore, i_lstore, i_iinc, i_bin, i_dv, i_un, i_lbin, i_lsh, i_i2l, i_l2i, i_lcmp, i_dup, i_dup2, i_pop, i_if, i_icmp, i_goto, swG, i_sw, i_getf, i_puti, i_putz, i_putr, i_ald, i_lald, i_aald, i_ast, i_last, i_aast, i_alen, i_new, i_newi, i_newl, i_newq, i_oinit, i_ret, i_zret, i_lret, i_vret, catS, tk, rpush, isO, i_m1, i_m2, i_acopy, i_callV, i_callS, KRet, lget, lput, lputL, lcl0, isL, lv0, List.map_cons, List.map_nil, List.length_cons, List.length_nil, List.cons_append, List.nil_append, Nat.reduceAdd, Nat.reduceSub, Nat.reduceLeDiff, List.replicate_succ, List.replicate_zero, List.getElem?_cons_succ, List.getElem?_cons_zero, List.set_cons_succ, List.set_cons_zero, true_and, and_true, if_true, if_false, reduceIte, Nat.le_refl, Value.category, va_up_app, eq_self, stp, Nat.reduceBEq, Bool.or_false, Bool.false_or, Bool.true_or, Bool.or_true, or_true, true_or, bx_uu, implies_true, true_implies, not_true, not_false_eq_true, false_implies, and_self, Nat.reduceLT, Int32.reduceAdd, Int32.reduceSub, Int32.reduceMul, Int32.reduceLE, Int32.reduceLT, Int32.reduceToNatClampNeg, va_rf_some, Bool.false_eq_true, k_X4_passTick_0 ca, k_X4_passTick_1 ca, k_X4_passTick_2 ca, k_X4_passTick_3 ca, k_X4_passTick_4 ca, k_X4_passTick_7 ca, k_X4_passTick_8 ca, k_X4_passTick_11 ca, k_X4_passTick_12 ca, k_X4_passTick_13 ca, k_X4_passTick_14 ca, k_X4_passTick_17 ca, k_X4_passTick_18 ca, k_X4_passTick_21 ca, k_X4_passTick_24 ca, k_X4_passTick_25 ca, k_X4_passTick_26 ca, k_X4_passTick_27 ca, k_X4_passTick_28 ca, k_X4_passTick_29 ca, k_X4_passTick_30 ca, k_X4_passTick_33 ca, k_X4_passTick_34 ca, k_X4_passTick_37 ca, k_X4_passTick_38 ca, k_X4_passTick_39 ca, k_X4_passTick_40 ca, k_X4_passTick_43 ca, k_X4_passTick_44 ca, k_X4_passTick_47 ca, k_X4_passTick_48 ca, k_X4_passTick_49 ca, k_X4_passTick_52 ca, k_X4_passTick_55 ca, k_X4_passTick_56 ca, k_X4_passTick_59 ca, k_X4_passTick_60 ca, k_X4_passTick_63 ca, k_X4_passTick_64 ca, k_X4_passTick_65 ca, k_X4_passTick_66 ca, k_X4_passTick_69 ca, k_X4_passTick_70 ca, k_X4_passTick_71 ca, k_X4_passTick_74 ca, k_X4_passTick_75 ca, k_X4_passTick_76 ca, k_X4_passTick_77 ca, k_X4_passTick_80 ca, k_X4_passTick_83 ca, k_X4_passTick_84 ca, k_X4_passTick_85 ca, k_X4_passTick_88 ca, k_X4_passTick_91 ca, k_X4_passTick_92 ca, k_X4_passTick_93 ca, k_X4_passTick_96 ca, k_X4_passTick_97 ca, k_X4_passTick_98 ca, k_X4_passTick_101 ca, k_X4_passTick_102 ca, eState, eStrip, eRoom, x0, xa1, xa2, xa3, xa4, xa5, xa6, xa8, xa9, xa10, xa13, xa14, xa15, xa18, xa19, xa20, xt7, xt12, xt17, xr11, xr16, xr21, xq30, xq31, xq32, xq40, xq41, xq42, v03, v13, v23, hbe, Nat.reduceEqDiff]
  refine it 0 (by omega) _ s (wtc s) 0 (SAt_scr6 hb hS _) (Ar_ne hR (fun z => absurd ((hb 5 6).mp z) (by decide))) ⟨_, va_up_self _ _ _, u012 rfl rfl rfl⟩ (fun h1 p1 p2 p3 p4 => ?_)
  refine it 1 (by omega) _ _ (wtc s) _ p1 p2 p3 (fun h2 q1 q2 q3 q4 => ?_)
  refine it 2 (by omega) _ _ (wtc s) _ q1 q2 q3 (fun h3 r1 r2 r3 r4 => ?_)
  have e3 : nI 2 + 1 = 3 := rfl
  rw [e3]
  clear it
  have hS4 := SAt_obj hb r1 (mk2 (tk3 s r (wtc s) 8) (tk3 s r (wtc s) 9 + 1))
  obtain ⟨y0, ⟨yf1, ya1, yx1⟩, ⟨yf2, ya2, yx2⟩, ⟨yf3, ya3, yx3⟩, ⟨yf4, ya4, yx4⟩, ⟨yf5, ya5⟩, ⟨yf6, ya6⟩, ⟨yt7, ⟨yf8, ya8, yx8⟩, ⟨yf9, ya9, yx9⟩, ⟨yf10, ya10, yx10⟩⟩, yr11, ⟨yt12, ⟨yf13, ya13, yx13⟩, ⟨yf14, ya14, yx14⟩, ⟨yf15, ya15, yx15⟩⟩, yr16, ⟨yt17, ⟨yf18, ya18, yx18⟩, ⟨yf19, ya19, yx19⟩, ⟨yf20, ya20, yx20⟩⟩, yr21⟩ := id r1
  have yq30 : yf3 0 = some (b 7) := yx3 0 (by decide)
  have yq40 : yf4 0 = some (b 11) := yx4 0 (by decide)
  have yq31 : yf3 1 = some (b 12) := yx3 1 (by decide)
  have yq41 : yf4 1 = some (b 16) := yx4 1 (by decide)
  have yq32 : yf3 2 = some (b 17) := yx3 2 (by decide)
  have yq42 : yf4 2 = some (b 21) := yx4 2 (by decide)
  refine go (stp []) 14 _ _ _ _ _ _ ?_
  simp only [wpS, ite_not, i_push, i_iload, i_lload, i_aload, i_istore, i_astore, i_lstore, i_iinc, i_bin, i_dv, i_un, i_lbin, i_lsh, i_i2l, i_l2i, i_lcmp, i_dup, i_dup2, i_pop, i_if, i_icmp, i_goto, swG, i_sw, i_getf, i_puti, i_putz, i_putr, i_ald, i_lald, i_aald, i_ast, i_last, i_aast, i_alen, i_new, i_newi, i_newl, i_newq, i_oinit, i_ret, i_zret, i_lret, i_vret, catS, tk, rpush, isO, i_m1, i_m2, i_acopy, i_callV, i_callS, KRet, lget, lput, lputL, lcl0, isL, lv0, List.map_cons, List.map_nil, List.length_cons, List.length_nil, List.cons_append, List.nil_append, Nat.reduceAdd, Nat.reduceSub, Nat.reduceLeDiff, List.replicate_succ, List.replicate_zero, List.getElem?_cons_succ, List.getElem?_cons_zero, List.set_cons_succ, List.set_cons_zero, true_and, and_true, if_true, if_false, reduceIte, Nat.le_refl, Value.category, va_up_app, eq_self, stp, Nat.reduceBEq, Bool.or_false, Bool.false_or, Bool.true_or, Bool.or_true, or_true, true_or, bx_uu, implies_true, true_implies, not_true, not_false_eq_true, false_implies, and_self, Nat.reduceLT, Int32.reduceAdd, Int32.reduceSub, Int32.reduceMul, Int32.reduceLE, Int32.reduceLT, Int32.reduceToNatClampNeg, va_rf_some, Bool.false_eq_true, k_X4_passTick_0 ca, k_X4_passTick_1 ca, k_X4_passTick_2 ca, k_X4_passTick_3 ca, k_X4_passTick_4 ca, k_X4_passTick_7 ca, k_X4_passTick_8 ca, k_X4_passTick_11 ca, k_X4_passTick_12 ca, k_X4_passTick_13 ca, k_X4_passTick_14 ca, k_X4_passTick_17 ca, k_X4_passTick_18 ca, k_X4_passTick_21 ca, k_X4_passTick_24 ca, k_X4_passTick_25 ca, k_X4_passTick_26 ca, k_X4_passTick_27 ca, k_X4_passTick_28 ca, k_X4_passTick_29 ca, k_X4_passTick_30 ca, k_X4_passTick_33 ca, k_X4_passTick_34 ca, k_X4_passTick_37 ca, k_X4_passTick_38 ca, k_X4_passTick_39 ca, k_X4_passTick_40 ca, k_X4_passTick_43 ca, k_X4_passTick_44 ca, k_X4_passTick_47 ca, k_X4_passTick_48 ca, k_X4_passTick_49 ca, k_X4_passTick_52 ca, k_X4_passTick_55 ca, k_X4_passTick_56 ca, k_X4_passTick_59 ca, k_X4_passTick_60 ca, k_X4_passTick_63 ca, k_X4_passTick_64 ca, k_X4_passTick_65 ca, k_X4_passTick_66 ca, k_X4_passTick_69 ca, k_X4_passTick_70 ca, k_X4_passTick_71 ca, k_X4_passTick_74 ca, k_X4_passTick_75 ca, k_X4_passTick_76 ca, k_X4_passTick_77 ca, k_X4_passTick_80 ca, k_X4_passTick_83 ca, k_X4_passTick_84 ca, k_X4_passTick_85 ca, k_X4_passTick_88 ca, k_X4_passTick_91 ca, k_X4_passTick_92 ca, k_X4_passTick_93 ca, k_X4_passTick_96 ca, k_X4_passTick_97 ca, k_X4_passTick_98 ca, k_X4_passTick_101 ca, k_X4_passTick_102 ca, eState, eStrip, eRoom, y0, ya1, ya2, ya3, ya4, ya5, ya6, ya8, ya9, ya10, ya13, ya14, ya15, ya18, ya19, ya20, yt7, yt12, yt17, yr11, yr16, yr21, yq30, yq31, yq32, yq40, yq41, yq42, hbe, Nat.reduceEqDiff]
  exact hs _ hS4 (Ar_ne r2 (fun z => absurd ((hb 5 0).mp z) (by decide))) (Same_tr (Same_tr (Same_tr (Same_up (by decide) _) p4) q4) (Same_tr r4 (Same_up (by decide) _)))

