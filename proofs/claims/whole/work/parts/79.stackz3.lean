/-! StackFinder: leastFirstPart, partOfLeastRow -/
theorem andbit (L : Int32) (m : Nat) (hm : m < 32) : (L &&& ((1 : Int32) <<< (nI m &&& 31)) = 0) = (bt L m = false) := propext ⟨fun h => by
    have := congrArg (fun y => bt y m) h
    simp only [b_and, b_0, b_shl m hm 1 hm, Nat.le_refl, decide_true, Nat.sub_self, b_1 0 (by decide), Bool.and_true] at this
    exact this, fun h => b_ext fun i hi => by
    rw [b_and, b_0, b_shl m hm 1 hi]
    by_cases q : m ≤ i
    · rw [b_1 (i - m) (by omega)]
      by_cases z : i = m
      · rw [z, h]; rfl
      · rw [decide_eq_false (show ¬ i - m = 0 by omega), Bool.and_false, Bool.and_false]
    · rw [decide_eq_false q, Bool.false_and, Bool.and_false]⟩
/-- with k chosen (its length k / 36 + 1, its pair k % 36) the other P parts can be -/
def wayZ (Nf : Nat → Nat) (P : Nat) (T b : Int) (k : Nat) : Prop := canZ Nf P (T - (k / 36 + 1 : Nat)) (b - (k / 36 + 1 : Nat) * dz Nf (k % 36))
theorem wayZ_k {Nf : Nat → Nat} {P : Nat} {T b : Int} {l p : Nat} (hl : 1 ≤ l) (hp : p < 36) : wayZ Nf P T b (36 * (l - 1) + p) ↔ canZ Nf P (T - l) (b - l * dz Nf p) := by
  unfold wayZ
  rw [show (36 * (l - 1) + p) / 36 + 1 = l by omega, show (36 * (l - 1) + p) % 36 = p by omega]
def sp_X3_leastFirstPart (ca : Nat → ClassId) : SPEC := fun av h post => ∃ x5 nx tm pp pc ox tx Nf pr P T b k, 1 ≤ P ∧ P ≤ 3 ∧ T ≤ 27 ∧ -20000 ≤ b ∧ b ≤ 20000 ∧ av = [.ref x5, .int (nI P), .int (zI b), .int (nI T)] ∧ SFc ca h x5 nx tm pp pc ox tx Nf pr ∧ k < 324 ∧ wayZ Nf (P - 1) T b k ∧ (∀ k', k' < k → ¬ wayZ Nf (P - 1) T b k') ∧ post (some (.int (nI (k + 36)))) h
def k_X3_leastFirstPart (ca : Nat → ClassId) : Nat → IT := fun pc => lk pc [(0, i_push (.int 9) 2),
  (2, i_iload 3 3),
  (3, i_m2 (fun x y => if y < x then y else x) 0 0 6),
  (6, i_istore 4 8),
  (8, i_push (.int 1) 9),
  (9, i_istore 5 11),
  (11, i_iload 5 13),
  (13, i_iload 4 15),
  (15, i_icmp (fun x y => y < x) 97 18),
  (18, i_push (.int 1) 19),
  (19, i_iload 3 20),
  (20, i_iload 5 22),
  (22, i_bin (fun x y => x - y) 23),
  (23, i_bin (fun x y => x <<< (y &&& 31)) 24),
  (24, i_istore 6 26),
  (26, i_push (.int 0) 27),
  (27, i_istore 7 29),
  (29, i_iload 7 31),
  (31, i_aload 0 32),
  (32, i_getf 3 3 35),
  (35, i_icmp (fun x y => y ≤ x) 91 38),
  (38, i_iload 2 39),
  (39, i_iload 5 41),
  (41, i_aload 0 42),
  (42, i_aload 0 43),
  (43, i_getf 3 2 46),
  (46, i_iload 7 48),
  (48, i_ald (ca 0) 49),
  (49, i_callV 3 1 0 0 0 0 (sp_X3_difference ca) 52),
  (52, i_bin (fun x y => x * y) 53),
  (53, i_bin (fun x y => x - y) 54),
  (54, i_istore 8 56),
  (56, i_aload 0 57),
  (57, i_iload 1 58),
  (58, i_push (.int 1) 59),
  (59, i_bin (fun x y => x - y) 60),
  (60, i_iload 8 62),
  (62, i_callV 3 2 0 0 0 0 (sp_X3_lengthsFor ca) 65),
  (65, i_iload 6 67),
  (67, i_bin (fun x y => x &&& y) 68),
  (68, i_if (fun x => x = 0) 85 71),
  (71, i_push (.int 36) 73),
  (73, i_iload 5 75),
  (75, i_bin (fun x y => x * y) 76),
  (76, i_aload 0 77),
  (77, i_getf 3 2 80),
  (80, i_iload 7 82),
  (82, i_ald (ca 0) 83),
  (83, i_bin (fun x y => x + y) 84),
  (84, i_ret),
  (85, i_iinc 7 1 88),
  (88, i_goto 29),
  (91, i_iinc 5 1 94),
  (94, i_goto 11),
  (97, i_push (.int 0) 98),
  (98, i_ret)]
set_option maxRecDepth 20000 in
theorem t_X3_leastFirstPart : Tb k_X3_leastFirstPart yX3_leastFirstPart cX3_leastFirstPart 9 (some .int) 4 0 0 := by
  intro l D ca A p e s m args below meth c post X
  unfold k_X3_leastFirstPart
  refine snd_cons (snd_bipush X dX3_leastFirstPart_0 (by decide)) ?_
  refine snd_cons (snd_iload_n X dX3_leastFirstPart_2 rfl) ?_
  refine snd_cons (snd_mmin X rfl rfl w_576 w_411 w_11 w_412 (by decide) (by decide) dX3_leastFirstPart_3) ?_
  refine snd_cons (snd_istore X dX3_leastFirstPart_6 (by decide)) ?_
  refine snd_cons (snd_iconst X dX3_leastFirstPart_8 (by decide)) ?_
  refine snd_cons (snd_istore X dX3_leastFirstPart_9 (by decide)) ?_
  refine snd_cons (snd_iload X dX3_leastFirstPart_11) ?_
  refine snd_cons (snd_iload X dX3_leastFirstPart_13) ?_
  refine snd_cons (snd_icmp_gt X dX3_leastFirstPart_15 (by decide)) ?_
  refine snd_cons (snd_iconst X dX3_leastFirstPart_18 (by decide)) ?_
  refine snd_cons (snd_iload_n X dX3_leastFirstPart_19 rfl) ?_
  refine snd_cons (snd_iload X dX3_leastFirstPart_20) ?_
  refine snd_cons (snd_isub X dX3_leastFirstPart_22) ?_
  refine snd_cons (snd_ishl X dX3_leastFirstPart_23) ?_
  refine snd_cons (snd_istore X dX3_leastFirstPart_24 (by decide)) ?_
  refine snd_cons (snd_iconst X dX3_leastFirstPart_26 (by decide)) ?_
  refine snd_cons (snd_istore X dX3_leastFirstPart_27 (by decide)) ?_
  refine snd_cons (snd_iload X dX3_leastFirstPart_29) ?_
  refine snd_cons (snd_aload_n X dX3_leastFirstPart_31 rfl) ?_
  refine snd_cons (snd_getf X Fk3 3 (by decide) w_237 dX3_leastFirstPart_32) ?_
  refine snd_cons (snd_icmp_ge X dX3_leastFirstPart_35 (by decide)) ?_
  refine snd_cons (snd_iload_n X dX3_leastFirstPart_38 rfl) ?_
  refine snd_cons (snd_iload X dX3_leastFirstPart_39) ?_
  refine snd_cons (snd_aload_n X dX3_leastFirstPart_41 rfl) ?_
  refine snd_cons (snd_aload_n X dX3_leastFirstPart_42 rfl) ?_
  refine snd_cons (snd_getf X Fk3 2 (by decide) w_236 dX3_leastFirstPart_43) ?_
  refine snd_cons (snd_iload X dX3_leastFirstPart_46) ?_
  refine snd_cons (snd_iaload X dX3_leastFirstPart_48) ?_
  refine snd_cons (snd_callV X Fk3 (ok_X3_difference l D ca) rfl rfl w_525 w_527 wp_6 w_8 w_528 (by decide) (by decide) dX3_leastFirstPart_49) ?_
  refine snd_cons (snd_imul X dX3_leastFirstPart_52) ?_
  refine snd_cons (snd_isub X dX3_leastFirstPart_53) ?_
  refine snd_cons (snd_istore X dX3_leastFirstPart_54 (by decide)) ?_
  refine snd_cons (snd_aload_n X dX3_leastFirstPart_56 rfl) ?_
  refine snd_cons (snd_iload_n X dX3_leastFirstPart_57 rfl) ?_
  refine snd_cons (snd_iconst X dX3_leastFirstPart_58 (by decide)) ?_
  refine snd_cons (snd_isub X dX3_leastFirstPart_59) ?_
  refine snd_cons (snd_iload X dX3_leastFirstPart_60) ?_
  refine snd_cons (snd_callV X Fk3 (ok_X3_lengthsFor l D ca) rfl rfl w_549 w_551 wp_10 w_8 w_552 (by decide) (by decide) dX3_leastFirstPart_62) ?_
  refine snd_cons (snd_iload X dX3_leastFirstPart_65) ?_
  refine snd_cons (snd_iand X dX3_leastFirstPart_67) ?_
  refine snd_cons (snd_if_eq X dX3_leastFirstPart_68 (by decide)) ?_
  refine snd_cons (snd_bipush X dX3_leastFirstPart_71 (by decide)) ?_
  refine snd_cons (snd_iload X dX3_leastFirstPart_73) ?_
  refine snd_cons (snd_imul X dX3_leastFirstPart_75) ?_
  refine snd_cons (snd_aload_n X dX3_leastFirstPart_76 rfl) ?_
  refine snd_cons (snd_getf X Fk3 2 (by decide) w_236 dX3_leastFirstPart_77) ?_
  refine snd_cons (snd_iload X dX3_leastFirstPart_80) ?_
  refine snd_cons (snd_iaload X dX3_leastFirstPart_82) ?_
  refine snd_cons (snd_iadd X dX3_leastFirstPart_83) ?_
  refine snd_cons (snd_ret X dX3_leastFirstPart_84) ?_
  refine snd_cons (snd_iinc X dX3_leastFirstPart_85 (by decide) (by decide)) ?_
  refine snd_cons (snd_goto X dX3_leastFirstPart_88 (by decide)) ?_
  refine snd_cons (snd_iinc X dX3_leastFirstPart_91 (by decide) (by decide)) ?_
  refine snd_cons (snd_goto X dX3_leastFirstPart_94 (by decide)) ?_
  refine snd_cons (snd_iconst X dX3_leastFirstPart_97 (by decide)) ?_
  refine snd_cons (snd_ret X dX3_leastFirstPart_98) ?_
  exact snd_nil
theorem k_X3_leastFirstPart_0 (ca : Nat → ClassId) : k_X3_leastFirstPart ca 0 = i_push (.int 9) 2 := rfl
theorem k_X3_leastFirstPart_2 (ca : Nat → ClassId) : k_X3_leastFirstPart ca 2 = i_iload 3 3 := rfl
theorem k_X3_leastFirstPart_3 (ca : Nat → ClassId) : k_X3_leastFirstPart ca 3 = i_m2 (fun x y => if y < x then y else x) 0 0 6 := rfl
theorem k_X3_leastFirstPart_6 (ca : Nat → ClassId) : k_X3_leastFirstPart ca 6 = i_istore 4 8 := rfl
theorem k_X3_leastFirstPart_8 (ca : Nat → ClassId) : k_X3_leastFirstPart ca 8 = i_push (.int 1) 9 := rfl
theorem k_X3_leastFirstPart_9 (ca : Nat → ClassId) : k_X3_leastFirstPart ca 9 = i_istore 5 11 := rfl
theorem k_X3_leastFirstPart_11 (ca : Nat → ClassId) : k_X3_leastFirstPart ca 11 = i_iload 5 13 := rfl
theorem k_X3_leastFirstPart_13 (ca : Nat → ClassId) : k_X3_leastFirstPart ca 13 = i_iload 4 15 := rfl
theorem k_X3_leastFirstPart_15 (ca : Nat → ClassId) : k_X3_leastFirstPart ca 15 = i_icmp (fun x y => y < x) 97 18 := rfl
theorem k_X3_leastFirstPart_18 (ca : Nat → ClassId) : k_X3_leastFirstPart ca 18 = i_push (.int 1) 19 := rfl
theorem k_X3_leastFirstPart_19 (ca : Nat → ClassId) : k_X3_leastFirstPart ca 19 = i_iload 3 20 := rfl
theorem k_X3_leastFirstPart_20 (ca : Nat → ClassId) : k_X3_leastFirstPart ca 20 = i_iload 5 22 := rfl
theorem k_X3_leastFirstPart_22 (ca : Nat → ClassId) : k_X3_leastFirstPart ca 22 = i_bin (fun x y => x - y) 23 := rfl
theorem k_X3_leastFirstPart_23 (ca : Nat → ClassId) : k_X3_leastFirstPart ca 23 = i_bin (fun x y => x <<< (y &&& 31)) 24 := rfl
theorem k_X3_leastFirstPart_24 (ca : Nat → ClassId) : k_X3_leastFirstPart ca 24 = i_istore 6 26 := rfl
theorem k_X3_leastFirstPart_26 (ca : Nat → ClassId) : k_X3_leastFirstPart ca 26 = i_push (.int 0) 27 := rfl
theorem k_X3_leastFirstPart_27 (ca : Nat → ClassId) : k_X3_leastFirstPart ca 27 = i_istore 7 29 := rfl
theorem k_X3_leastFirstPart_29 (ca : Nat → ClassId) : k_X3_leastFirstPart ca 29 = i_iload 7 31 := rfl
theorem k_X3_leastFirstPart_31 (ca : Nat → ClassId) : k_X3_leastFirstPart ca 31 = i_aload 0 32 := rfl
theorem k_X3_leastFirstPart_32 (ca : Nat → ClassId) : k_X3_leastFirstPart ca 32 = i_getf 3 3 35 := rfl
theorem k_X3_leastFirstPart_35 (ca : Nat → ClassId) : k_X3_leastFirstPart ca 35 = i_icmp (fun x y => y ≤ x) 91 38 := rfl
theorem k_X3_leastFirstPart_38 (ca : Nat → ClassId) : k_X3_leastFirstPart ca 38 = i_iload 2 39 := rfl
theorem k_X3_leastFirstPart_39 (ca : Nat → ClassId) : k_X3_leastFirstPart ca 39 = i_iload 5 41 := rfl
theorem k_X3_leastFirstPart_41 (ca : Nat → ClassId) : k_X3_leastFirstPart ca 41 = i_aload 0 42 := rfl
theorem k_X3_leastFirstPart_42 (ca : Nat → ClassId) : k_X3_leastFirstPart ca 42 = i_aload 0 43 := rfl
theorem k_X3_leastFirstPart_43 (ca : Nat → ClassId) : k_X3_leastFirstPart ca 43 = i_getf 3 2 46 := rfl
theorem k_X3_leastFirstPart_46 (ca : Nat → ClassId) : k_X3_leastFirstPart ca 46 = i_iload 7 48 := rfl
theorem k_X3_leastFirstPart_48 (ca : Nat → ClassId) : k_X3_leastFirstPart ca 48 = i_ald (ca 0) 49 := rfl
theorem k_X3_leastFirstPart_49 (ca : Nat → ClassId) : k_X3_leastFirstPart ca 49 = i_callV 3 1 0 0 0 0 (sp_X3_difference ca) 52 := rfl
theorem k_X3_leastFirstPart_52 (ca : Nat → ClassId) : k_X3_leastFirstPart ca 52 = i_bin (fun x y => x * y) 53 := rfl
theorem k_X3_leastFirstPart_53 (ca : Nat → ClassId) : k_X3_leastFirstPart ca 53 = i_bin (fun x y => x - y) 54 := rfl
theorem k_X3_leastFirstPart_54 (ca : Nat → ClassId) : k_X3_leastFirstPart ca 54 = i_istore 8 56 := rfl
theorem k_X3_leastFirstPart_56 (ca : Nat → ClassId) : k_X3_leastFirstPart ca 56 = i_aload 0 57 := rfl
theorem k_X3_leastFirstPart_57 (ca : Nat → ClassId) : k_X3_leastFirstPart ca 57 = i_iload 1 58 := rfl
theorem k_X3_leastFirstPart_58 (ca : Nat → ClassId) : k_X3_leastFirstPart ca 58 = i_push (.int 1) 59 := rfl
theorem k_X3_leastFirstPart_59 (ca : Nat → ClassId) : k_X3_leastFirstPart ca 59 = i_bin (fun x y => x - y) 60 := rfl
theorem k_X3_leastFirstPart_60 (ca : Nat → ClassId) : k_X3_leastFirstPart ca 60 = i_iload 8 62 := rfl
theorem k_X3_leastFirstPart_62 (ca : Nat → ClassId) : k_X3_leastFirstPart ca 62 = i_callV 3 2 0 0 0 0 (sp_X3_lengthsFor ca) 65 := rfl
theorem k_X3_leastFirstPart_65 (ca : Nat → ClassId) : k_X3_leastFirstPart ca 65 = i_iload 6 67 := rfl
theorem k_X3_leastFirstPart_67 (ca : Nat → ClassId) : k_X3_leastFirstPart ca 67 = i_bin (fun x y => x &&& y) 68 := rfl
theorem k_X3_leastFirstPart_68 (ca : Nat → ClassId) : k_X3_leastFirstPart ca 68 = i_if (fun x => x = 0) 85 71 := rfl
theorem k_X3_leastFirstPart_71 (ca : Nat → ClassId) : k_X3_leastFirstPart ca 71 = i_push (.int 36) 73 := rfl
theorem k_X3_leastFirstPart_73 (ca : Nat → ClassId) : k_X3_leastFirstPart ca 73 = i_iload 5 75 := rfl
theorem k_X3_leastFirstPart_75 (ca : Nat → ClassId) : k_X3_leastFirstPart ca 75 = i_bin (fun x y => x * y) 76 := rfl
theorem k_X3_leastFirstPart_76 (ca : Nat → ClassId) : k_X3_leastFirstPart ca 76 = i_aload 0 77 := rfl
theorem k_X3_leastFirstPart_77 (ca : Nat → ClassId) : k_X3_leastFirstPart ca 77 = i_getf 3 2 80 := rfl
theorem k_X3_leastFirstPart_80 (ca : Nat → ClassId) : k_X3_leastFirstPart ca 80 = i_iload 7 82 := rfl
theorem k_X3_leastFirstPart_82 (ca : Nat → ClassId) : k_X3_leastFirstPart ca 82 = i_ald (ca 0) 83 := rfl
theorem k_X3_leastFirstPart_83 (ca : Nat → ClassId) : k_X3_leastFirstPart ca 83 = i_bin (fun x y => x + y) 84 := rfl
theorem k_X3_leastFirstPart_84 (ca : Nat → ClassId) : k_X3_leastFirstPart ca 84 = i_ret := rfl
theorem k_X3_leastFirstPart_85 (ca : Nat → ClassId) : k_X3_leastFirstPart ca 85 = i_iinc 7 1 88 := rfl
theorem k_X3_leastFirstPart_88 (ca : Nat → ClassId) : k_X3_leastFirstPart ca 88 = i_goto 29 := rfl
theorem k_X3_leastFirstPart_91 (ca : Nat → ClassId) : k_X3_leastFirstPart ca 91 = i_iinc 5 1 94 := rfl
theorem k_X3_leastFirstPart_94 (ca : Nat → ClassId) : k_X3_leastFirstPart ca 94 = i_goto 11 := rfl
theorem k_X3_leastFirstPart_97 (ca : Nat → ClassId) : k_X3_leastFirstPart ca 97 = i_push (.int 0) 98 := rfl
theorem k_X3_leastFirstPart_98 (ca : Nat → ClassId) : k_X3_leastFirstPart ca 98 = i_ret := rfl
set_option maxHeartbeats 4000000 in
set_option maxRecDepth 20000 in
theorem ok_X3_leastFirstPart (l : Launch) (D : va_G) (ca : Nat → ClassId) : OkAll l D ca yX3_leastFirstPart cX3_leastFirstPart 9 (some .int) 4 0 0 (sp_X3_leastFirstPart ca) := by
  intro av h post hs
  obtain ⟨x5, nx, tm, pp, pc, ox, tx, Nf, pr, P, T, b, k, hP1, hP, hT, hb1, hb2, rfl, hF, hk, hw, hmin, hs⟩ := hs
  obtain ⟨e0, hNu, ⟨pf, e1, hp⟩, hO, hTw, hN⟩ := id hF
  have e0' := e0
  unfold eSF at e0'
  have hp36 := hp.1
  have hw0 := hw
  unfold wayZ at hw0
  have hwb := (canZ_bd hN hw0).1
  obtain ⟨i0, hi0, hd0, hle0⟩ := hp.2.2.2 (k % 36) (by omega)
  have eP : nI P - 1 = nI (P - 1) := by rw [show (1 : Int32) = nI 1 from rfl, sub_nI hP1]
  have emin : (if nI T < (9 : Int32) then nI T else (9 : Int32)) = nI (min 9 T) := by
    have e9 : (nI T < (9 : Int32)) = (T < 9) := propext (nI_ltI (b := 9) (by omega) (by decide))
    by_cases q : T < 9
    · rw [if_pos (e9 ▸ q)]; exact congrArg nI (by omega)
    · rw [if_neg (e9 ▸ q), show (9 : Int32) = nI 9 from rfl]; exact congrArg nI (by omega)
  refine okM_of t_X3_leastFirstPart (by decide +kernel) (c1_ref (c1_int (c1_int (c1_int c1_nil)))) (Nat.le_of_ble_eq_true rfl) ?_
  intro K go
  have key : ∀ r l x6 x7 x8, l + r = min 9 T + 1 → 1 ≤ l → (∀ l' i', 1 ≤ l' → l' < l → i' < pc → ¬ canZ Nf (P - 1) ((T : Int) - l') (b - l' * dz Nf (pr i'))) → K 0 0 11 [some (.ref x5), some (.int (nI P)), some (.int (zI b)), some (.int (nI T)), some (.int (nI (min 9 T))), some (.int (nI l)), x6, x7, x8] [] h := by
    intro r
    induction r with
    | zero =>
      intro l x6 x7 x8 hl h1l hno
      refine absurd ?_ (hno (k / 36 + 1) i0 (by omega) (by omega) hi0)
      rw [hd0]
      exact hw0
    | succ r ih =>
      intro l x6 x7 x8 hl h1l hno
      have g1 : (nI (min 9 T) < nI l) = False := eq_false (nI_nlt (by omega) (by omega))
      have es := sub_nI (a := T) (b := l) (by omega)
      have inner : ∀ r2 i x8, i + r2 = pc → (∀ i', i' < i → ¬ canZ Nf (P - 1) ((T : Int) - l) (b - l * dz Nf (pr i'))) → K 0 0 29 [some (.ref x5), some (.int (nI P)), some (.int (zI b)), some (.int (nI T)), some (.int (nI (min 9 T))), some (.int (nI l)), some (.int ((1 : Int32) <<< (nI (T - l) &&& 31))), some (.int (nI i)), x8] [] h := by
        intro r2
        induction r2 with
        | zero =>
          intro i x8 hi hno2
          have hi : i = pc := hi
          subst hi
          have k0 := ih (l + 1) (some (.int ((1 : Int32) <<< (nI (T - l) &&& 31)))) (some (.int (nI i))) x8 (by omega) (by omega) (fun l' i' h1 h2 h3 => by
            by_cases z : l' = l
            · rw [z]; exact hno2 i' h3
            · exact hno l' i' h1 (by omega) h3)
          refine goN go (stp [11]) 160 _ _ _ _ _ _ (fun F hF hF0 => ?_)
          simp only [hF, hF0, ite_not, i_push, i_iload, i_lload, i_aload, i_istore, i_astore, i_lstore, i_iinc, i_bin, i_dv, i_un, i_lbin, i_lsh, i_i2l, i_l2i, i_lcmp, i_dup, i_dup2, i_pop, i_if, i_icmp, i_goto, swG, i_sw, i_getf, i_puti, i_putz, i_putr, i_ald, i_lald, i_aald, i_ast, i_last, i_aast, i_alen, i_new, i_newi, i_newl, i_newq, i_oinit, i_ret, i_zret, i_lret, i_vret, catS, tk, rpush, isO, i_m1, i_m2, i_acopy, i_callV, i_callS, KRet, lget, lput, lputL, lcl0, isL, lv0, List.map_cons, List.map_nil, List.length_cons, List.length_nil, List.cons_append, List.nil_append, Nat.reduceAdd, Nat.reduceSub, Nat.reduceLeDiff, List.replicate_succ, List.replicate_zero, List.getElem?_cons_succ, List.getElem?_cons_zero, List.set_cons_succ, List.set_cons_zero, true_and, and_true, if_true, if_false, ↓reduceIte, Nat.le_refl, Value.category, va_up_app, eq_self, stp, Nat.reduceBEq, Bool.or_false, Bool.false_or, Bool.true_or, Bool.or_true, or_true, true_or, bx_uu, implies_true, true_implies, not_true, not_false_eq_true, false_implies, and_self, Nat.reduceLT, Int32.reduceAdd, Int32.reduceSub, Int32.reduceMul, Int32.reduceLE, Int32.reduceLT, Int32.reduceToNatClampNeg, va_rf_some, Bool.false_eq_true, k_X3_leastFirstPart_0 ca, k_X3_leastFirstPart_2 ca, k_X3_leastFirstPart_3 ca, k_X3_leastFirstPart_6 ca, k_X3_leastFirstPart_8 ca, k_X3_leastFirstPart_9 ca, k_X3_leastFirstPart_11 ca, k_X3_leastFirstPart_13 ca, k_X3_leastFirstPart_15 ca, k_X3_leastFirstPart_18 ca, k_X3_leastFirstPart_19 ca, k_X3_leastFirstPart_20 ca, k_X3_leastFirstPart_22 ca, k_X3_leastFirstPart_23 ca, k_X3_leastFirstPart_24 ca, k_X3_leastFirstPart_26 ca, k_X3_leastFirstPart_27 ca, k_X3_leastFirstPart_29 ca, k_X3_leastFirstPart_31 ca, k_X3_leastFirstPart_32 ca, k_X3_leastFirstPart_35 ca, k_X3_leastFirstPart_38 ca, k_X3_leastFirstPart_39 ca, k_X3_leastFirstPart_41 ca, k_X3_leastFirstPart_42 ca, k_X3_leastFirstPart_43 ca, k_X3_leastFirstPart_46 ca, k_X3_leastFirstPart_48 ca, k_X3_leastFirstPart_49 ca, k_X3_leastFirstPart_52 ca, k_X3_leastFirstPart_53 ca, k_X3_leastFirstPart_54 ca, k_X3_leastFirstPart_56 ca, k_X3_leastFirstPart_57 ca, k_X3_leastFirstPart_58 ca, k_X3_leastFirstPart_59 ca, k_X3_leastFirstPart_60 ca, k_X3_leastFirstPart_62 ca, k_X3_leastFirstPart_65 ca, k_X3_leastFirstPart_67 ca, k_X3_leastFirstPart_68 ca, k_X3_leastFirstPart_71 ca, k_X3_leastFirstPart_73 ca, k_X3_leastFirstPart_75 ca, k_X3_leastFirstPart_76 ca, k_X3_leastFirstPart_77 ca, k_X3_leastFirstPart_80 ca, k_X3_leastFirstPart_82 ca, k_X3_leastFirstPart_83 ca, k_X3_leastFirstPart_84 ca, k_X3_leastFirstPart_85 ca, k_X3_leastFirstPart_88 ca, k_X3_leastFirstPart_91 ca, k_X3_leastFirstPart_94 ca, k_X3_leastFirstPart_97 ca, k_X3_leastFirstPart_98 ca, e0', Int32.le_refl, a_1]
          try clear hF hF0 F
          exact k0
        | succ r2 ih2 =>
          intro i x8 hi hno2
          have g2 : ¬ nI pc ≤ nI i := nI_ge (by omega) (by omega)
          have vi : vp_in (nI i) 36 := vp_in_nI (by omega) (by decide)
          have xi : (nI i).toNatClampNeg = i := nI_clamp (by omega)
          obtain ⟨y1, y2⟩ := hp.2.1 i (by omega)
          have hbd := ld_bd (l := l) (by omega) (dz_bd hN y2)
          refine goN go (stp [52]) 160 _ _ _ _ _ _ (fun F hF hF0 => ?_)
          simp only [hF, hF0, ite_not, i_push, i_iload, i_lload, i_aload, i_istore, i_astore, i_lstore, i_iinc, i_bin, i_dv, i_un, i_lbin, i_lsh, i_i2l, i_l2i, i_lcmp, i_dup, i_dup2, i_pop, i_if, i_icmp, i_goto, swG, i_sw, i_getf, i_puti, i_putz, i_putr, i_ald, i_lald, i_aald, i_ast, i_last, i_aast, i_alen, i_new, i_newi, i_newl, i_newq, i_oinit, i_ret, i_zret, i_lret, i_vret, catS, tk, rpush, isO, i_m1, i_m2, i_acopy, i_callV, i_callS, KRet, lget, lput, lputL, lcl0, isL, lv0, List.map_cons, List.map_nil, List.length_cons, List.length_nil, List.cons_append, List.nil_append, Nat.reduceAdd, Nat.reduceSub, Nat.reduceLeDiff, List.replicate_succ, List.replicate_zero, List.getElem?_cons_succ, List.getElem?_cons_zero, List.set_cons_succ, List.set_cons_zero, true_and, and_true, if_true, if_false, ↓reduceIte, Nat.le_refl, Value.category, va_up_app, eq_self, stp, Nat.reduceBEq, Bool.or_false, Bool.false_or, Bool.true_or, Bool.or_true, or_true, true_or, bx_uu, implies_true, true_implies, not_true, not_false_eq_true, false_implies, and_self, Nat.reduceLT, Int32.reduceAdd, Int32.reduceSub, Int32.reduceMul, Int32.reduceLE, Int32.reduceLT, Int32.reduceToNatClampNeg, va_rf_some, Bool.false_eq_true, k_X3_leastFirstPart_0 ca, k_X3_leastFirstPart_2 ca, k_X3_leastFirstPart_3 ca, k_X3_leastFirstPart_6 ca, k_X3_leastFirstPart_8 ca, k_X3_leastFirstPart_9 ca, k_X3_leastFirstPart_11 ca, k_X3_leastFirstPart_13 ca, k_X3_leastFirstPart_15 ca, k_X3_leastFirstPart_18 ca, k_X3_leastFirstPart_19 ca, k_X3_leastFirstPart_20 ca, k_X3_leastFirstPart_22 ca, k_X3_leastFirstPart_23 ca, k_X3_leastFirstPart_24 ca, k_X3_leastFirstPart_26 ca, k_X3_leastFirstPart_27 ca, k_X3_leastFirstPart_29 ca, k_X3_leastFirstPart_31 ca, k_X3_leastFirstPart_32 ca, k_X3_leastFirstPart_35 ca, k_X3_leastFirstPart_38 ca, k_X3_leastFirstPart_39 ca, k_X3_leastFirstPart_41 ca, k_X3_leastFirstPart_42 ca, k_X3_leastFirstPart_43 ca, k_X3_leastFirstPart_46 ca, k_X3_leastFirstPart_48 ca, k_X3_leastFirstPart_49 ca, k_X3_leastFirstPart_52 ca, k_X3_leastFirstPart_53 ca, k_X3_leastFirstPart_54 ca, k_X3_leastFirstPart_56 ca, k_X3_leastFirstPart_57 ca, k_X3_leastFirstPart_58 ca, k_X3_leastFirstPart_59 ca, k_X3_leastFirstPart_60 ca, k_X3_leastFirstPart_62 ca, k_X3_leastFirstPart_65 ca, k_X3_leastFirstPart_67 ca, k_X3_leastFirstPart_68 ca, k_X3_leastFirstPart_71 ca, k_X3_leastFirstPart_73 ca, k_X3_leastFirstPart_75 ca, k_X3_leastFirstPart_76 ca, k_X3_leastFirstPart_77 ca, k_X3_leastFirstPart_80 ca, k_X3_leastFirstPart_82 ca, k_X3_leastFirstPart_83 ca, k_X3_leastFirstPart_84 ca, k_X3_leastFirstPart_85 ca, k_X3_leastFirstPart_88 ca, k_X3_leastFirstPart_91 ca, k_X3_leastFirstPart_94 ca, k_X3_leastFirstPart_97 ca, k_X3_leastFirstPart_98 ca, e0', e1, g2, vi, xi, y1]
          try clear hF hF0 F
          refine ⟨x5, nx, tm, pp, nI pc, ox, tx, Nf, pr i, y2, rfl, e0, hNu, ?_⟩
          refine goN go (stp [65]) 160 _ _ _ _ _ _ (fun F hF hF0 => ?_)
          simp only [hF, hF0, ite_not, i_push, i_iload, i_lload, i_aload, i_istore, i_astore, i_lstore, i_iinc, i_bin, i_dv, i_un, i_lbin, i_lsh, i_i2l, i_l2i, i_lcmp, i_dup, i_dup2, i_pop, i_if, i_icmp, i_goto, swG, i_sw, i_getf, i_puti, i_putz, i_putr, i_ald, i_lald, i_aald, i_ast, i_last, i_aast, i_alen, i_new, i_newi, i_newl, i_newq, i_oinit, i_ret, i_zret, i_lret, i_vret, catS, tk, rpush, isO, i_m1, i_m2, i_acopy, i_callV, i_callS, KRet, lget, lput, lputL, lcl0, isL, lv0, List.map_cons, List.map_nil, List.length_cons, List.length_nil, List.cons_append, List.nil_append, Nat.reduceAdd, Nat.reduceSub, Nat.reduceLeDiff, List.replicate_succ, List.replicate_zero, List.getElem?_cons_succ, List.getElem?_cons_zero, List.set_cons_succ, List.set_cons_zero, true_and, and_true, if_true, if_false, ↓reduceIte, Nat.le_refl, Value.category, va_up_app, eq_self, stp, Nat.reduceBEq, Bool.or_false, Bool.false_or, Bool.true_or, Bool.or_true, or_true, true_or, bx_uu, implies_true, true_implies, not_true, not_false_eq_true, false_implies, and_self, Nat.reduceLT, Int32.reduceAdd, Int32.reduceSub, Int32.reduceMul, Int32.reduceLE, Int32.reduceLT, Int32.reduceToNatClampNeg, va_rf_some, Bool.false_eq_true, k_X3_leastFirstPart_0 ca, k_X3_leastFirstPart_2 ca, k_X3_leastFirstPart_3 ca, k_X3_leastFirstPart_6 ca, k_X3_leastFirstPart_8 ca, k_X3_leastFirstPart_9 ca, k_X3_leastFirstPart_11 ca, k_X3_leastFirstPart_13 ca, k_X3_leastFirstPart_15 ca, k_X3_leastFirstPart_18 ca, k_X3_leastFirstPart_19 ca, k_X3_leastFirstPart_20 ca, k_X3_leastFirstPart_22 ca, k_X3_leastFirstPart_23 ca, k_X3_leastFirstPart_24 ca, k_X3_leastFirstPart_26 ca, k_X3_leastFirstPart_27 ca, k_X3_leastFirstPart_29 ca, k_X3_leastFirstPart_31 ca, k_X3_leastFirstPart_32 ca, k_X3_leastFirstPart_35 ca, k_X3_leastFirstPart_38 ca, k_X3_leastFirstPart_39 ca, k_X3_leastFirstPart_41 ca, k_X3_leastFirstPart_42 ca, k_X3_leastFirstPart_43 ca, k_X3_leastFirstPart_46 ca, k_X3_leastFirstPart_48 ca, k_X3_leastFirstPart_49 ca, k_X3_leastFirstPart_52 ca, k_X3_leastFirstPart_53 ca, k_X3_leastFirstPart_54 ca, k_X3_leastFirstPart_56 ca, k_X3_leastFirstPart_57 ca, k_X3_leastFirstPart_58 ca, k_X3_leastFirstPart_59 ca, k_X3_leastFirstPart_60 ca, k_X3_leastFirstPart_62 ca, k_X3_leastFirstPart_65 ca, k_X3_leastFirstPart_67 ca, k_X3_leastFirstPart_68 ca, k_X3_leastFirstPart_71 ca, k_X3_leastFirstPart_73 ca, k_X3_leastFirstPart_75 ca, k_X3_leastFirstPart_76 ca, k_X3_leastFirstPart_77 ca, k_X3_leastFirstPart_80 ca, k_X3_leastFirstPart_82 ca, k_X3_leastFirstPart_83 ca, k_X3_leastFirstPart_84 ca, k_X3_leastFirstPart_85 ca, k_X3_leastFirstPart_88 ca, k_X3_leastFirstPart_91 ca, k_X3_leastFirstPart_94 ca, k_X3_leastFirstPart_97 ca, k_X3_leastFirstPart_98 ca, e0', z_mul, zI_sub, eP]
          try clear hF hF0 F
          refine ⟨x5, nx, tm, pp, pc, ox, tx, Nf, pr, P - 1, b - l * dz Nf (pr i), by omega, by omega, by omega, rfl, hF, fun L hL => ?_⟩
          have ab := andbit L (T - l) (by omega)
          have hb := hL (T - l) (by omega)
          rw [show ((T - l : Nat) : Int) = (T : Int) - l by omega] at hb
          cases q : bt L (T - l) with
          | false =>
            rw [q] at ab
            have ab' : (L &&& ((1 : Int32) <<< (nI (T - l) &&& 31)) = 0) = True := ab.trans (eq_true rfl)
            have k0 := ih2 (i + 1) (some (.int (zI (b - l * dz Nf (pr i))))) (by omega) (fun i' h3 => by
              by_cases z : i' = i
              · rw [z]; intro w; rw [hb.mpr w] at q; cases q
              · exact hno2 i' (by omega))
            refine goN go (stp [29]) 160 _ _ _ _ _ _ (fun F hF hF0 => ?_)
            simp only [hF, hF0, ite_not, i_push, i_iload, i_lload, i_aload, i_istore, i_astore, i_lstore, i_iinc, i_bin, i_dv, i_un, i_lbin, i_lsh, i_i2l, i_l2i, i_lcmp, i_dup, i_dup2, i_pop, i_if, i_icmp, i_goto, swG, i_sw, i_getf, i_puti, i_putz, i_putr, i_ald, i_lald, i_aald, i_ast, i_last, i_aast, i_alen, i_new, i_newi, i_newl, i_newq, i_oinit, i_ret, i_zret, i_lret, i_vret, catS, tk, rpush, isO, i_m1, i_m2, i_acopy, i_callV, i_callS, KRet, lget, lput, lputL, lcl0, isL, lv0, List.map_cons, List.map_nil, List.length_cons, List.length_nil, List.cons_append, List.nil_append, Nat.reduceAdd, Nat.reduceSub, Nat.reduceLeDiff, List.replicate_succ, List.replicate_zero, List.getElem?_cons_succ, List.getElem?_cons_zero, List.set_cons_succ, List.set_cons_zero, true_and, and_true, if_true, if_false, ↓reduceIte, Nat.le_refl, Value.category, va_up_app, eq_self, stp, Nat.reduceBEq, Bool.or_false, Bool.false_or, Bool.true_or, Bool.or_true, or_true, true_or, bx_uu, implies_true, true_implies, not_true, not_false_eq_true, false_implies, and_self, Nat.reduceLT, Int32.reduceAdd, Int32.reduceSub, Int32.reduceMul, Int32.reduceLE, Int32.reduceLT, Int32.reduceToNatClampNeg, va_rf_some, Bool.false_eq_true, k_X3_leastFirstPart_0 ca, k_X3_leastFirstPart_2 ca, k_X3_leastFirstPart_3 ca, k_X3_leastFirstPart_6 ca, k_X3_leastFirstPart_8 ca, k_X3_leastFirstPart_9 ca, k_X3_leastFirstPart_11 ca, k_X3_leastFirstPart_13 ca, k_X3_leastFirstPart_15 ca, k_X3_leastFirstPart_18 ca, k_X3_leastFirstPart_19 ca, k_X3_leastFirstPart_20 ca, k_X3_leastFirstPart_22 ca, k_X3_leastFirstPart_23 ca, k_X3_leastFirstPart_24 ca, k_X3_leastFirstPart_26 ca, k_X3_leastFirstPart_27 ca, k_X3_leastFirstPart_29 ca, k_X3_leastFirstPart_31 ca, k_X3_leastFirstPart_32 ca, k_X3_leastFirstPart_35 ca, k_X3_leastFirstPart_38 ca, k_X3_leastFirstPart_39 ca, k_X3_leastFirstPart_41 ca, k_X3_leastFirstPart_42 ca, k_X3_leastFirstPart_43 ca, k_X3_leastFirstPart_46 ca, k_X3_leastFirstPart_48 ca, k_X3_leastFirstPart_49 ca, k_X3_leastFirstPart_52 ca, k_X3_leastFirstPart_53 ca, k_X3_leastFirstPart_54 ca, k_X3_leastFirstPart_56 ca, k_X3_leastFirstPart_57 ca, k_X3_leastFirstPart_58 ca, k_X3_leastFirstPart_59 ca, k_X3_leastFirstPart_60 ca, k_X3_leastFirstPart_62 ca, k_X3_leastFirstPart_65 ca, k_X3_leastFirstPart_67 ca, k_X3_leastFirstPart_68 ca, k_X3_leastFirstPart_71 ca, k_X3_leastFirstPart_73 ca, k_X3_leastFirstPart_75 ca, k_X3_leastFirstPart_76 ca, k_X3_leastFirstPart_77 ca, k_X3_leastFirstPart_80 ca, k_X3_leastFirstPart_82 ca, k_X3_leastFirstPart_83 ca, k_X3_leastFirstPart_84 ca, k_X3_leastFirstPart_85 ca, k_X3_leastFirstPart_88 ca, k_X3_leastFirstPart_91 ca, k_X3_leastFirstPart_94 ca, k_X3_leastFirstPart_97 ca, k_X3_leastFirstPart_98 ca, ab', a_1]
            try clear hF hF0 F
            exact k0
          | true =>
            rw [q] at ab
            have ab' : (L &&& ((1 : Int32) <<< (nI (T - l) &&& 31)) = 0) = False := ab.trans (eq_false (by decide))
            have hc := hb.mp q
            have hk' : ¬ 36 * (l - 1) + pr i < k := fun z => hmin _ z ((wayZ_k h1l y2).mpr hc)
            have hk2 : k = 36 * (l - 1) + pr i := by
              rcases Nat.lt_trichotomy (k / 36 + 1) l with z | z | z
              · exact absurd (by rw [hd0]; exact hw0) (hno (k / 36 + 1) i0 (by omega) z hi0)
              · by_cases z2 : i0 < i
                · exact absurd (by rw [hd0, ← z]; exact hw0) (hno2 i0 z2)
                · by_cases z3 : i0 = i
                  · rw [← z3] at hk' ⊢; omega
                  · have := hp.2.2.1 i i0 (by omega) hi0
                    omega
              · omega
            have m36 : (36 : Int32) * nI l = nI (36 * l) := by rw [show (36 : Int32) = nI 36 from rfl, pk_mul]
            have ek : 36 * l + pr i = k + 36 := by omega
            refine goN go (stp []) 160 _ _ _ _ _ _ (fun F hF hF0 => ?_)
            simp only [hF, hF0, ite_not, i_push, i_iload, i_lload, i_aload, i_istore, i_astore, i_lstore, i_iinc, i_bin, i_dv, i_un, i_lbin, i_lsh, i_i2l, i_l2i, i_lcmp, i_dup, i_dup2, i_pop, i_if, i_icmp, i_goto, swG, i_sw, i_getf, i_puti, i_putz, i_putr, i_ald, i_lald, i_aald, i_ast, i_last, i_aast, i_alen, i_new, i_newi, i_newl, i_newq, i_oinit, i_ret, i_zret, i_lret, i_vret, catS, tk, rpush, isO, i_m1, i_m2, i_acopy, i_callV, i_callS, KRet, lget, lput, lputL, lcl0, isL, lv0, List.map_cons, List.map_nil, List.length_cons, List.length_nil, List.cons_append, List.nil_append, Nat.reduceAdd, Nat.reduceSub, Nat.reduceLeDiff, List.replicate_succ, List.replicate_zero, List.getElem?_cons_succ, List.getElem?_cons_zero, List.set_cons_succ, List.set_cons_zero, true_and, and_true, if_true, if_false, ↓reduceIte, Nat.le_refl, Value.category, va_up_app, eq_self, stp, Nat.reduceBEq, Bool.or_false, Bool.false_or, Bool.true_or, Bool.or_true, or_true, true_or, bx_uu, implies_true, true_implies, not_true, not_false_eq_true, false_implies, and_self, Nat.reduceLT, Int32.reduceAdd, Int32.reduceSub, Int32.reduceMul, Int32.reduceLE, Int32.reduceLT, Int32.reduceToNatClampNeg, va_rf_some, Bool.false_eq_true, k_X3_leastFirstPart_0 ca, k_X3_leastFirstPart_2 ca, k_X3_leastFirstPart_3 ca, k_X3_leastFirstPart_6 ca, k_X3_leastFirstPart_8 ca, k_X3_leastFirstPart_9 ca, k_X3_leastFirstPart_11 ca, k_X3_leastFirstPart_13 ca, k_X3_leastFirstPart_15 ca, k_X3_leastFirstPart_18 ca, k_X3_leastFirstPart_19 ca, k_X3_leastFirstPart_20 ca, k_X3_leastFirstPart_22 ca, k_X3_leastFirstPart_23 ca, k_X3_leastFirstPart_24 ca, k_X3_leastFirstPart_26 ca, k_X3_leastFirstPart_27 ca, k_X3_leastFirstPart_29 ca, k_X3_leastFirstPart_31 ca, k_X3_leastFirstPart_32 ca, k_X3_leastFirstPart_35 ca, k_X3_leastFirstPart_38 ca, k_X3_leastFirstPart_39 ca, k_X3_leastFirstPart_41 ca, k_X3_leastFirstPart_42 ca, k_X3_leastFirstPart_43 ca, k_X3_leastFirstPart_46 ca, k_X3_leastFirstPart_48 ca, k_X3_leastFirstPart_49 ca, k_X3_leastFirstPart_52 ca, k_X3_leastFirstPart_53 ca, k_X3_leastFirstPart_54 ca, k_X3_leastFirstPart_56 ca, k_X3_leastFirstPart_57 ca, k_X3_leastFirstPart_58 ca, k_X3_leastFirstPart_59 ca, k_X3_leastFirstPart_60 ca, k_X3_leastFirstPart_62 ca, k_X3_leastFirstPart_65 ca, k_X3_leastFirstPart_67 ca, k_X3_leastFirstPart_68 ca, k_X3_leastFirstPart_71 ca, k_X3_leastFirstPart_73 ca, k_X3_leastFirstPart_75 ca, k_X3_leastFirstPart_76 ca, k_X3_leastFirstPart_77 ca, k_X3_leastFirstPart_80 ca, k_X3_leastFirstPart_82 ca, k_X3_leastFirstPart_83 ca, k_X3_leastFirstPart_84 ca, k_X3_leastFirstPart_85 ca, k_X3_leastFirstPart_88 ca, k_X3_leastFirstPart_91 ca, k_X3_leastFirstPart_94 ca, k_X3_leastFirstPart_97 ca, k_X3_leastFirstPart_98 ca, ab', e0', e1, vi, xi, y1, m36, nI_add, ek]
            try clear hF hF0 F
            exact hs
      have k0 := inner pc 0 x8 (by omega) (fun i' h => absurd h (by omega))
      rw [nI_0] at k0
      refine goN go (stp [29]) 160 _ _ _ _ _ _ (fun F hF hF0 => ?_)
      simp only [hF, hF0, ite_not, i_push, i_iload, i_lload, i_aload, i_istore, i_astore, i_lstore, i_iinc, i_bin, i_dv, i_un, i_lbin, i_lsh, i_i2l, i_l2i, i_lcmp, i_dup, i_dup2, i_pop, i_if, i_icmp, i_goto, swG, i_sw, i_getf, i_puti, i_putz, i_putr, i_ald, i_lald, i_aald, i_ast, i_last, i_aast, i_alen, i_new, i_newi, i_newl, i_newq, i_oinit, i_ret, i_zret, i_lret, i_vret, catS, tk, rpush, isO, i_m1, i_m2, i_acopy, i_callV, i_callS, KRet, lget, lput, lputL, lcl0, isL, lv0, List.map_cons, List.map_nil, List.length_cons, List.length_nil, List.cons_append, List.nil_append, Nat.reduceAdd, Nat.reduceSub, Nat.reduceLeDiff, List.replicate_succ, List.replicate_zero, List.getElem?_cons_succ, List.getElem?_cons_zero, List.set_cons_succ, List.set_cons_zero, true_and, and_true, if_true, if_false, ↓reduceIte, Nat.le_refl, Value.category, va_up_app, eq_self, stp, Nat.reduceBEq, Bool.or_false, Bool.false_or, Bool.true_or, Bool.or_true, or_true, true_or, bx_uu, implies_true, true_implies, not_true, not_false_eq_true, false_implies, and_self, Nat.reduceLT, Int32.reduceAdd, Int32.reduceSub, Int32.reduceMul, Int32.reduceLE, Int32.reduceLT, Int32.reduceToNatClampNeg, va_rf_some, Bool.false_eq_true, k_X3_leastFirstPart_0 ca, k_X3_leastFirstPart_2 ca, k_X3_leastFirstPart_3 ca, k_X3_leastFirstPart_6 ca, k_X3_leastFirstPart_8 ca, k_X3_leastFirstPart_9 ca, k_X3_leastFirstPart_11 ca, k_X3_leastFirstPart_13 ca, k_X3_leastFirstPart_15 ca, k_X3_leastFirstPart_18 ca, k_X3_leastFirstPart_19 ca, k_X3_leastFirstPart_20 ca, k_X3_leastFirstPart_22 ca, k_X3_leastFirstPart_23 ca, k_X3_leastFirstPart_24 ca, k_X3_leastFirstPart_26 ca, k_X3_leastFirstPart_27 ca, k_X3_leastFirstPart_29 ca, k_X3_leastFirstPart_31 ca, k_X3_leastFirstPart_32 ca, k_X3_leastFirstPart_35 ca, k_X3_leastFirstPart_38 ca, k_X3_leastFirstPart_39 ca, k_X3_leastFirstPart_41 ca, k_X3_leastFirstPart_42 ca, k_X3_leastFirstPart_43 ca, k_X3_leastFirstPart_46 ca, k_X3_leastFirstPart_48 ca, k_X3_leastFirstPart_49 ca, k_X3_leastFirstPart_52 ca, k_X3_leastFirstPart_53 ca, k_X3_leastFirstPart_54 ca, k_X3_leastFirstPart_56 ca, k_X3_leastFirstPart_57 ca, k_X3_leastFirstPart_58 ca, k_X3_leastFirstPart_59 ca, k_X3_leastFirstPart_60 ca, k_X3_leastFirstPart_62 ca, k_X3_leastFirstPart_65 ca, k_X3_leastFirstPart_67 ca, k_X3_leastFirstPart_68 ca, k_X3_leastFirstPart_71 ca, k_X3_leastFirstPart_73 ca, k_X3_leastFirstPart_75 ca, k_X3_leastFirstPart_76 ca, k_X3_leastFirstPart_77 ca, k_X3_leastFirstPart_80 ca, k_X3_leastFirstPart_82 ca, k_X3_leastFirstPart_83 ca, k_X3_leastFirstPart_84 ca, k_X3_leastFirstPart_85 ca, k_X3_leastFirstPart_88 ca, k_X3_leastFirstPart_91 ca, k_X3_leastFirstPart_94 ca, k_X3_leastFirstPart_97 ca, k_X3_leastFirstPart_98 ca, g1, es]
      try clear hF hF0 F
      exact k0
  have k0 := key (min 9 T) 1 none none none (by omega) (by omega) (fun l' i' h1 h2 => absurd h1 (by omega))
  rw [n1] at k0
  refine goN go (stp [11]) 160 _ _ _ _ _ _ (fun F hF hF0 => ?_)
  simp only [hF, hF0, ite_not, i_push, i_iload, i_lload, i_aload, i_istore, i_astore, i_lstore, i_iinc, i_bin, i_dv, i_un, i_lbin, i_lsh, i_i2l, i_l2i, i_lcmp, i_dup, i_dup2, i_pop, i_if, i_icmp, i_goto, swG, i_sw, i_getf, i_puti, i_putz, i_putr, i_ald, i_lald, i_aald, i_ast, i_last, i_aast, i_alen, i_new, i_newi, i_newl, i_newq, i_oinit, i_ret, i_zret, i_lret, i_vret, catS, tk, rpush, isO, i_m1, i_m2, i_acopy, i_callV, i_callS, KRet, lget, lput, lputL, lcl0, isL, lv0, List.map_cons, List.map_nil, List.length_cons, List.length_nil, List.cons_append, List.nil_append, Nat.reduceAdd, Nat.reduceSub, Nat.reduceLeDiff, List.replicate_succ, List.replicate_zero, List.getElem?_cons_succ, List.getElem?_cons_zero, List.set_cons_succ, List.set_cons_zero, true_and, and_true, if_true, if_false, ↓reduceIte, Nat.le_refl, Value.category, va_up_app, eq_self, stp, Nat.reduceBEq, Bool.or_false, Bool.false_or, Bool.true_or, Bool.or_true, or_true, true_or, bx_uu, implies_true, true_implies, not_true, not_false_eq_true, false_implies, and_self, Nat.reduceLT, Int32.reduceAdd, Int32.reduceSub, Int32.reduceMul, Int32.reduceLE, Int32.reduceLT, Int32.reduceToNatClampNeg, va_rf_some, Bool.false_eq_true, k_X3_leastFirstPart_0 ca, k_X3_leastFirstPart_2 ca, k_X3_leastFirstPart_3 ca, k_X3_leastFirstPart_6 ca, k_X3_leastFirstPart_8 ca, k_X3_leastFirstPart_9 ca, k_X3_leastFirstPart_11 ca, k_X3_leastFirstPart_13 ca, k_X3_leastFirstPart_15 ca, k_X3_leastFirstPart_18 ca, k_X3_leastFirstPart_19 ca, k_X3_leastFirstPart_20 ca, k_X3_leastFirstPart_22 ca, k_X3_leastFirstPart_23 ca, k_X3_leastFirstPart_24 ca, k_X3_leastFirstPart_26 ca, k_X3_leastFirstPart_27 ca, k_X3_leastFirstPart_29 ca, k_X3_leastFirstPart_31 ca, k_X3_leastFirstPart_32 ca, k_X3_leastFirstPart_35 ca, k_X3_leastFirstPart_38 ca, k_X3_leastFirstPart_39 ca, k_X3_leastFirstPart_41 ca, k_X3_leastFirstPart_42 ca, k_X3_leastFirstPart_43 ca, k_X3_leastFirstPart_46 ca, k_X3_leastFirstPart_48 ca, k_X3_leastFirstPart_49 ca, k_X3_leastFirstPart_52 ca, k_X3_leastFirstPart_53 ca, k_X3_leastFirstPart_54 ca, k_X3_leastFirstPart_56 ca, k_X3_leastFirstPart_57 ca, k_X3_leastFirstPart_58 ca, k_X3_leastFirstPart_59 ca, k_X3_leastFirstPart_60 ca, k_X3_leastFirstPart_62 ca, k_X3_leastFirstPart_65 ca, k_X3_leastFirstPart_67 ca, k_X3_leastFirstPart_68 ca, k_X3_leastFirstPart_71 ca, k_X3_leastFirstPart_73 ca, k_X3_leastFirstPart_75 ca, k_X3_leastFirstPart_76 ca, k_X3_leastFirstPart_77 ca, k_X3_leastFirstPart_80 ca, k_X3_leastFirstPart_82 ca, k_X3_leastFirstPart_83 ca, k_X3_leastFirstPart_84 ca, k_X3_leastFirstPart_85 ca, k_X3_leastFirstPart_88 ca, k_X3_leastFirstPart_91 ca, k_X3_leastFirstPart_94 ca, k_X3_leastFirstPart_97 ca, k_X3_leastFirstPart_98 ca, emin]
  try clear hF hF0 F
  exact k0
/-- the row of least parts, over whole numbers -/
def RowZ (Nf : Nat → Nat) (P : Nat) (T b : Int) (kk : Nat → Nat) (LT RS : Nat → Int) : Prop := LT 0 = T ∧ RS 0 = b ∧ ∀ n, n < P → kk n < 324 ∧ wayZ Nf (P - n - 1) (LT n) (RS n) (kk n) ∧ (∀ k, k < kk n → ¬ wayZ Nf (P - n - 1) (LT n) (RS n) k) ∧ LT (n + 1) = LT n - (kk n / 36 + 1 : Nat) ∧ RS (n + 1) = RS n - (kk n / 36 + 1 : Nat) * dz Nf (kk n % 36)
theorem RowZ_RS {Nf : Nat → Nat} {P : Nat} {T b : Int} {kk : Nat → Nat} {LT RS : Nat → Int} (hN : Nm Nf) (h : RowZ Nf P T b kk LT RS) : ∀ n, n ≤ P → b - 270 * n ≤ RS n ∧ RS n ≤ b + 270 * n
  | 0, _ => by rw [h.2.1]; omega
  | n + 1, hn => by
    have := RowZ_RS hN h n (by omega)
    obtain ⟨h1, -, -, -, h5⟩ := h.2.2 n (by omega)
    have h6 := ld_bd (l := kk n / 36 + 1) (by omega) (dz_bd hN (show kk n % 36 < 36 by omega))
    rw [h5]
    generalize ((kk n / 36 + 1 : Nat) : Int) * dz Nf (kk n % 36) = y at *
    omega
theorem RowZ_LT {Nf : Nat → Nat} {P : Nat} {T b : Int} {kk : Nat → Nat} {LT RS : Nat → Int} (hN : Nm Nf) (h : RowZ Nf P T b kk LT RS) {n : Nat} (hn : n < P) : 1 ≤ LT n := by
  obtain ⟨h1, h2, -⟩ := h.2.2 n hn
  have := (canZ_bd hN h2).1
  omega
theorem RowZ_LT2 {Nf : Nat → Nat} {P : Nat} {T b : Int} {kk : Nat → Nat} {LT RS : Nat → Int} (h : RowZ Nf P T b kk LT RS) : ∀ n, n ≤ P → LT n ≤ T
  | 0, _ => by rw [h.1]; omega
  | n + 1, hn => by
    have := RowZ_LT2 h n (by omega)
    obtain ⟨h1, -, -, h4, -⟩ := h.2.2 n (by omega)
    rw [h4]
    omega
theorem rem36 {k : Nat} (h : k < 2 ^ 31) : nI k - nI k / 36 * 36 = nI (k % 36) := by rw [show (36 : Int32) = nI 36 from rfl]; exact pk_rem h (by decide) (by decide)
theorem rem36b {k : Nat} (h : k < 2 ^ 31) : nI k - nI (k / 36) * 36 = nI (k % 36) := by rw [← div36 h]; exact rem36 h
def sp_X3_partOfLeastRow (ca : Nat → ClassId) : SPEC := fun av h post => ∃ x5 nx tm pp pc ox tx Nf pr P T b I W kk LT RS, P ≤ 3 ∧ -10000 ≤ b ∧ b ≤ 10000 ∧ I < P ∧ W ≤ 2 ∧ av = [.ref x5, .int (nI P), .int (zI b), .int (nI I), .int (nI W)] ∧ SFc ca h x5 nx tm pp pc ox tx Nf pr ∧ canZ Nf P T b ∧ (∀ T', T' < T → ¬ canZ Nf P T' b) ∧ RowZ Nf P T b kk LT RS ∧ post (some (.int (stV kk I W))) h
def k_X3_partOfLeastRow (ca : Nat → ClassId) : Nat → IT := fun pc => lk pc [(0, i_iload 2 1),
  (1, i_istore 5 3),
  (3, i_aload 0 4),
  (4, i_iload 1 5),
  (5, i_iload 2 6),
  (6, i_callV 3 2 0 0 0 0 (sp_X3_lengthsFor ca) 9),
  (9, i_callS 1 0 0 0 0 (sp_X3_leastLength ca) 12),
  (12, i_istore 6 14),
  (14, i_push (.int 0) 15),
  (15, i_istore 7 17),
  (17, i_push (.int 0) 18),
  (18, i_istore 8 20),
  (20, i_iload 8 22),
  (22, i_iload 3 23),
  (23, i_icmp (fun x y => y < x) 76 26),
  (26, i_aload 0 27),
  (27, i_iload 1 28),
  (28, i_iload 8 30),
  (30, i_bin (fun x y => x - y) 31),
  (31, i_iload 5 33),
  (33, i_iload 6 35),
  (35, i_callV 3 3 0 0 0 0 (sp_X3_leastFirstPart ca) 38),
  (38, i_istore 7 40),
  (40, i_iload 5 42),
  (42, i_iload 7 44),
  (44, i_push (.int 36) 46),
  (46, i_dv (fun x y => x / y) 47),
  (47, i_aload 0 48),
  (48, i_iload 7 50),
  (50, i_push (.int 36) 52),
  (52, i_dv (fun x y => x - x / y * y) 53),
  (53, i_callV 3 1 0 0 0 0 (sp_X3_difference ca) 56),
  (56, i_bin (fun x y => x * y) 57),
  (57, i_bin (fun x y => x - y) 58),
  (58, i_istore 5 60),
  (60, i_iload 6 62),
  (62, i_iload 7 64),
  (64, i_push (.int 36) 66),
  (66, i_dv (fun x y => x / y) 67),
  (67, i_bin (fun x y => x - y) 68),
  (68, i_istore 6 70),
  (70, i_iinc 8 1 73),
  (73, i_goto 20),
  (76, i_iload 4 78),
  (78, i_sw [(0, 104), (1, 110)] 119),
  (104, i_iload 7 106),
  (106, i_push (.int 36) 108),
  (108, i_dv (fun x y => x / y) 109),
  (109, i_ret),
  (110, i_iload 7 112),
  (112, i_push (.int 36) 114),
  (114, i_dv (fun x y => x - x / y * y) 115),
  (115, i_push (.int 6) 117),
  (117, i_dv (fun x y => x / y) 118),
  (118, i_ret),
  (119, i_iload 7 121),
  (121, i_push (.int 6) 123),
  (123, i_dv (fun x y => x - x / y * y) 124),
  (124, i_ret)]
set_option maxRecDepth 20000 in
theorem t_X3_partOfLeastRow : Tb k_X3_partOfLeastRow yX3_partOfLeastRow cX3_partOfLeastRow 9 (some .int) 5 0 0 := by
  intro l D ca A p e s m args below meth c post X
  unfold k_X3_partOfLeastRow
  refine snd_cons (snd_iload_n X dX3_partOfLeastRow_0 rfl) ?_
  refine snd_cons (snd_istore X dX3_partOfLeastRow_1 (by decide)) ?_
  refine snd_cons (snd_aload_n X dX3_partOfLeastRow_3 rfl) ?_
  refine snd_cons (snd_iload_n X dX3_partOfLeastRow_4 rfl) ?_
  refine snd_cons (snd_iload_n X dX3_partOfLeastRow_5 rfl) ?_
  refine snd_cons (snd_callV X Fk3 (ok_X3_lengthsFor l D ca) rfl rfl w_549 w_551 wp_10 w_8 w_552 (by decide) (by decide) dX3_partOfLeastRow_6) ?_
  refine snd_cons (snd_callS X (ok_X3_leastLength l D ca) rfl rfl w_569 w_570 w_8 w_571 (by decide) (by decide) dX3_partOfLeastRow_9) ?_
  refine snd_cons (snd_istore X dX3_partOfLeastRow_12 (by decide)) ?_
  refine snd_cons (snd_iconst X dX3_partOfLeastRow_14 (by decide)) ?_
  refine snd_cons (snd_istore X dX3_partOfLeastRow_15 (by decide)) ?_
  refine snd_cons (snd_iconst X dX3_partOfLeastRow_17 (by decide)) ?_
  refine snd_cons (snd_istore X dX3_partOfLeastRow_18 (by decide)) ?_
  refine snd_cons (snd_iload X dX3_partOfLeastRow_20) ?_
  refine snd_cons (snd_iload_n X dX3_partOfLeastRow_22 rfl) ?_
  refine snd_cons (snd_icmp_gt X dX3_partOfLeastRow_23 (by decide)) ?_
  refine snd_cons (snd_aload_n X dX3_partOfLeastRow_26 rfl) ?_
  refine snd_cons (snd_iload_n X dX3_partOfLeastRow_27 rfl) ?_
  refine snd_cons (snd_iload X dX3_partOfLeastRow_28) ?_
  refine snd_cons (snd_isub X dX3_partOfLeastRow_30) ?_
  refine snd_cons (snd_iload X dX3_partOfLeastRow_31) ?_
  refine snd_cons (snd_iload X dX3_partOfLeastRow_33) ?_
  refine snd_cons (snd_callV X Fk3 (ok_X3_leastFirstPart l D ca) rfl rfl w_572 w_574 wp_14 w_8 w_575 (by decide) (by decide) dX3_partOfLeastRow_35) ?_
  refine snd_cons (snd_istore X dX3_partOfLeastRow_38 (by decide)) ?_
  refine snd_cons (snd_iload X dX3_partOfLeastRow_40) ?_
  refine snd_cons (snd_iload X dX3_partOfLeastRow_42) ?_
  refine snd_cons (snd_bipush X dX3_partOfLeastRow_44 (by decide)) ?_
  refine snd_cons (snd_idiv X dX3_partOfLeastRow_46) ?_
  refine snd_cons (snd_aload_n X dX3_partOfLeastRow_47 rfl) ?_
  refine snd_cons (snd_iload X dX3_partOfLeastRow_48) ?_
  refine snd_cons (snd_bipush X dX3_partOfLeastRow_50 (by decide)) ?_
  refine snd_cons (snd_irem X dX3_partOfLeastRow_52) ?_
  refine snd_cons (snd_callV X Fk3 (ok_X3_difference l D ca) rfl rfl w_525 w_527 wp_6 w_8 w_528 (by decide) (by decide) dX3_partOfLeastRow_53) ?_
  refine snd_cons (snd_imul X dX3_partOfLeastRow_56) ?_
  refine snd_cons (snd_isub X dX3_partOfLeastRow_57) ?_
  refine snd_cons (snd_istore X dX3_partOfLeastRow_58 (by decide)) ?_
  refine snd_cons (snd_iload X dX3_partOfLeastRow_60) ?_
  refine snd_cons (snd_iload X dX3_partOfLeastRow_62) ?_
  refine snd_cons (snd_bipush X dX3_partOfLeastRow_64 (by decide)) ?_
  refine snd_cons (snd_idiv X dX3_partOfLeastRow_66) ?_
  refine snd_cons (snd_isub X dX3_partOfLeastRow_67) ?_
  refine snd_cons (snd_istore X dX3_partOfLeastRow_68 (by decide)) ?_
  refine snd_cons (snd_iinc X dX3_partOfLeastRow_70 (by decide) (by decide)) ?_
  refine snd_cons (snd_goto X dX3_partOfLeastRow_73 (by decide)) ?_
  refine snd_cons (snd_iload X dX3_partOfLeastRow_76) ?_
  refine snd_cons (snd_lookup X dX3_partOfLeastRow_78 (by decide) (by decide) (by decide)) ?_
  refine snd_cons (snd_iload X dX3_partOfLeastRow_104) ?_
  refine snd_cons (snd_bipush X dX3_partOfLeastRow_106 (by decide)) ?_
  refine snd_cons (snd_idiv X dX3_partOfLeastRow_108) ?_
  refine snd_cons (snd_ret X dX3_partOfLeastRow_109) ?_
  refine snd_cons (snd_iload X dX3_partOfLeastRow_110) ?_
  refine snd_cons (snd_bipush X dX3_partOfLeastRow_112 (by decide)) ?_
  refine snd_cons (snd_irem X dX3_partOfLeastRow_114) ?_
  refine snd_cons (snd_bipush X dX3_partOfLeastRow_115 (by decide)) ?_
  refine snd_cons (snd_idiv X dX3_partOfLeastRow_117) ?_
  refine snd_cons (snd_ret X dX3_partOfLeastRow_118) ?_
  refine snd_cons (snd_iload X dX3_partOfLeastRow_119) ?_
  refine snd_cons (snd_bipush X dX3_partOfLeastRow_121 (by decide)) ?_
  refine snd_cons (snd_irem X dX3_partOfLeastRow_123) ?_
  refine snd_cons (snd_ret X dX3_partOfLeastRow_124) ?_
  exact snd_nil
theorem k_X3_partOfLeastRow_0 (ca : Nat → ClassId) : k_X3_partOfLeastRow ca 0 = i_iload 2 1 := rfl
theorem k_X3_partOfLeastRow_1 (ca : Nat → ClassId) : k_X3_partOfLeastRow ca 1 = i_istore 5 3 := rfl
theorem k_X3_partOfLeastRow_3 (ca : Nat → ClassId) : k_X3_partOfLeastRow ca 3 = i_aload 0 4 := rfl
theorem k_X3_partOfLeastRow_4 (ca : Nat → ClassId) : k_X3_partOfLeastRow ca 4 = i_iload 1 5 := rfl
theorem k_X3_partOfLeastRow_5 (ca : Nat → ClassId) : k_X3_partOfLeastRow ca 5 = i_iload 2 6 := rfl
theorem k_X3_partOfLeastRow_6 (ca : Nat → ClassId) : k_X3_partOfLeastRow ca 6 = i_callV 3 2 0 0 0 0 (sp_X3_lengthsFor ca) 9 := rfl
theorem k_X3_partOfLeastRow_9 (ca : Nat → ClassId) : k_X3_partOfLeastRow ca 9 = i_callS 1 0 0 0 0 (sp_X3_leastLength ca) 12 := rfl
theorem k_X3_partOfLeastRow_12 (ca : Nat → ClassId) : k_X3_partOfLeastRow ca 12 = i_istore 6 14 := rfl
theorem k_X3_partOfLeastRow_14 (ca : Nat → ClassId) : k_X3_partOfLeastRow ca 14 = i_push (.int 0) 15 := rfl
theorem k_X3_partOfLeastRow_15 (ca : Nat → ClassId) : k_X3_partOfLeastRow ca 15 = i_istore 7 17 := rfl
theorem k_X3_partOfLeastRow_17 (ca : Nat → ClassId) : k_X3_partOfLeastRow ca 17 = i_push (.int 0) 18 := rfl
theorem k_X3_partOfLeastRow_18 (ca : Nat → ClassId) : k_X3_partOfLeastRow ca 18 = i_istore 8 20 := rfl
theorem k_X3_partOfLeastRow_20 (ca : Nat → ClassId) : k_X3_partOfLeastRow ca 20 = i_iload 8 22 := rfl
theorem k_X3_partOfLeastRow_22 (ca : Nat → ClassId) : k_X3_partOfLeastRow ca 22 = i_iload 3 23 := rfl
theorem k_X3_partOfLeastRow_23 (ca : Nat → ClassId) : k_X3_partOfLeastRow ca 23 = i_icmp (fun x y => y < x) 76 26 := rfl
theorem k_X3_partOfLeastRow_26 (ca : Nat → ClassId) : k_X3_partOfLeastRow ca 26 = i_aload 0 27 := rfl
theorem k_X3_partOfLeastRow_27 (ca : Nat → ClassId) : k_X3_partOfLeastRow ca 27 = i_iload 1 28 := rfl
theorem k_X3_partOfLeastRow_28 (ca : Nat → ClassId) : k_X3_partOfLeastRow ca 28 = i_iload 8 30 := rfl
theorem k_X3_partOfLeastRow_30 (ca : Nat → ClassId) : k_X3_partOfLeastRow ca 30 = i_bin (fun x y => x - y) 31 := rfl
theorem k_X3_partOfLeastRow_31 (ca : Nat → ClassId) : k_X3_partOfLeastRow ca 31 = i_iload 5 33 := rfl
theorem k_X3_partOfLeastRow_33 (ca : Nat → ClassId) : k_X3_partOfLeastRow ca 33 = i_iload 6 35 := rfl
theorem k_X3_partOfLeastRow_35 (ca : Nat → ClassId) : k_X3_partOfLeastRow ca 35 = i_callV 3 3 0 0 0 0 (sp_X3_leastFirstPart ca) 38 := rfl
theorem k_X3_partOfLeastRow_38 (ca : Nat → ClassId) : k_X3_partOfLeastRow ca 38 = i_istore 7 40 := rfl
theorem k_X3_partOfLeastRow_40 (ca : Nat → ClassId) : k_X3_partOfLeastRow ca 40 = i_iload 5 42 := rfl
theorem k_X3_partOfLeastRow_42 (ca : Nat → ClassId) : k_X3_partOfLeastRow ca 42 = i_iload 7 44 := rfl
theorem k_X3_partOfLeastRow_44 (ca : Nat → ClassId) : k_X3_partOfLeastRow ca 44 = i_push (.int 36) 46 := rfl
theorem k_X3_partOfLeastRow_46 (ca : Nat → ClassId) : k_X3_partOfLeastRow ca 46 = i_dv (fun x y => x / y) 47 := rfl
theorem k_X3_partOfLeastRow_47 (ca : Nat → ClassId) : k_X3_partOfLeastRow ca 47 = i_aload 0 48 := rfl
theorem k_X3_partOfLeastRow_48 (ca : Nat → ClassId) : k_X3_partOfLeastRow ca 48 = i_iload 7 50 := rfl
theorem k_X3_partOfLeastRow_50 (ca : Nat → ClassId) : k_X3_partOfLeastRow ca 50 = i_push (.int 36) 52 := rfl
theorem k_X3_partOfLeastRow_52 (ca : Nat → ClassId) : k_X3_partOfLeastRow ca 52 = i_dv (fun x y => x - x / y * y) 53 := rfl
theorem k_X3_partOfLeastRow_53 (ca : Nat → ClassId) : k_X3_partOfLeastRow ca 53 = i_callV 3 1 0 0 0 0 (sp_X3_difference ca) 56 := rfl
theorem k_X3_partOfLeastRow_56 (ca : Nat → ClassId) : k_X3_partOfLeastRow ca 56 = i_bin (fun x y => x * y) 57 := rfl
theorem k_X3_partOfLeastRow_57 (ca : Nat → ClassId) : k_X3_partOfLeastRow ca 57 = i_bin (fun x y => x - y) 58 := rfl
theorem k_X3_partOfLeastRow_58 (ca : Nat → ClassId) : k_X3_partOfLeastRow ca 58 = i_istore 5 60 := rfl
theorem k_X3_partOfLeastRow_60 (ca : Nat → ClassId) : k_X3_partOfLeastRow ca 60 = i_iload 6 62 := rfl
theorem k_X3_partOfLeastRow_62 (ca : Nat → ClassId) : k_X3_partOfLeastRow ca 62 = i_iload 7 64 := rfl
theorem k_X3_partOfLeastRow_64 (ca : Nat → ClassId) : k_X3_partOfLeastRow ca 64 = i_push (.int 36) 66 := rfl
theorem k_X3_partOfLeastRow_66 (ca : Nat → ClassId) : k_X3_partOfLeastRow ca 66 = i_dv (fun x y => x / y) 67 := rfl
theorem k_X3_partOfLeastRow_67 (ca : Nat → ClassId) : k_X3_partOfLeastRow ca 67 = i_bin (fun x y => x - y) 68 := rfl
theorem k_X3_partOfLeastRow_68 (ca : Nat → ClassId) : k_X3_partOfLeastRow ca 68 = i_istore 6 70 := rfl
theorem k_X3_partOfLeastRow_70 (ca : Nat → ClassId) : k_X3_partOfLeastRow ca 70 = i_iinc 8 1 73 := rfl
theorem k_X3_partOfLeastRow_73 (ca : Nat → ClassId) : k_X3_partOfLeastRow ca 73 = i_goto 20 := rfl
theorem k_X3_partOfLeastRow_76 (ca : Nat → ClassId) : k_X3_partOfLeastRow ca 76 = i_iload 4 78 := rfl
theorem k_X3_partOfLeastRow_78 (ca : Nat → ClassId) : k_X3_partOfLeastRow ca 78 = i_sw [(0, 104), (1, 110)] 119 := rfl
theorem k_X3_partOfLeastRow_104 (ca : Nat → ClassId) : k_X3_partOfLeastRow ca 104 = i_iload 7 106 := rfl
theorem k_X3_partOfLeastRow_106 (ca : Nat → ClassId) : k_X3_partOfLeastRow ca 106 = i_push (.int 36) 108 := rfl
theorem k_X3_partOfLeastRow_108 (ca : Nat → ClassId) : k_X3_partOfLeastRow ca 108 = i_dv (fun x y => x / y) 109 := rfl
theorem k_X3_partOfLeastRow_109 (ca : Nat → ClassId) : k_X3_partOfLeastRow ca 109 = i_ret := rfl
theorem k_X3_partOfLeastRow_110 (ca : Nat → ClassId) : k_X3_partOfLeastRow ca 110 = i_iload 7 112 := rfl
theorem k_X3_partOfLeastRow_112 (ca : Nat → ClassId) : k_X3_partOfLeastRow ca 112 = i_push (.int 36) 114 := rfl
theorem k_X3_partOfLeastRow_114 (ca : Nat → ClassId) : k_X3_partOfLeastRow ca 114 = i_dv (fun x y => x - x / y * y) 115 := rfl
theorem k_X3_partOfLeastRow_115 (ca : Nat → ClassId) : k_X3_partOfLeastRow ca 115 = i_push (.int 6) 117 := rfl
theorem k_X3_partOfLeastRow_117 (ca : Nat → ClassId) : k_X3_partOfLeastRow ca 117 = i_dv (fun x y => x / y) 118 := rfl
theorem k_X3_partOfLeastRow_118 (ca : Nat → ClassId) : k_X3_partOfLeastRow ca 118 = i_ret := rfl
theorem k_X3_partOfLeastRow_119 (ca : Nat → ClassId) : k_X3_partOfLeastRow ca 119 = i_iload 7 121 := rfl
theorem k_X3_partOfLeastRow_121 (ca : Nat → ClassId) : k_X3_partOfLeastRow ca 121 = i_push (.int 6) 123 := rfl
theorem k_X3_partOfLeastRow_123 (ca : Nat → ClassId) : k_X3_partOfLeastRow ca 123 = i_dv (fun x y => x - x / y * y) 124 := rfl
theorem k_X3_partOfLeastRow_124 (ca : Nat → ClassId) : k_X3_partOfLeastRow ca 124 = i_ret := rfl
set_option maxHeartbeats 4000000 in
set_option maxRecDepth 20000 in
theorem ok_X3_partOfLeastRow (l : Launch) (D : va_G) (ca : Nat → ClassId) : OkAll l D ca yX3_partOfLeastRow cX3_partOfLeastRow 9 (some .int) 5 0 0 (sp_X3_partOfLeastRow ca) := by
  intro av h post hs
  obtain ⟨x5, nx, tm, pp, pc, ox, tx, Nf, pr, P, T, b, I, W, kk, LT, RS, hP, hb1, hb2, hI, hW, rfl, hF, hc, hmin, hrow, hs⟩ := hs
  obtain ⟨e0, hNu, hPr, hO, hTw, hN⟩ := id hF
  have e0' := e0
  unfold eSF at e0'
  have hTb := canZ_bd hN hc
  have hRS := RowZ_RS hN hrow
  have hLT2 := RowZ_LT2 hrow
  refine okM_of t_X3_partOfLeastRow (by decide +kernel) (c1_ref (c1_int (c1_int (c1_int (c1_int c1_nil))))) (Nat.le_of_ble_eq_true rfl) ?_
  intro K go
  have key : ∀ r i x7, i + r = I → K 0 0 20 [some (.ref x5), some (.int (nI P)), some (.int (zI b)), some (.int (nI I)), some (.int (nI W)), some (.int (zI (RS i))), some (.int (zI (LT i))), x7, some (.int (nI i))] [] h := by
    intro r
    induction r with
    | zero =>
      intro i x7 hi
      have hi : i = I := hi
      subst hi
      obtain ⟨a1, a2, a3, a4, a5⟩ := hrow.2.2 i hI
      have hLn := RowZ_LT hN hrow hI
      have hL2 := hLT2 i (by omega)
      have hR := hRS i (by omega)
      have eLT : zI (LT i) = nI (LT i).toNat := by rw [zI_n]; exact congrArg zI (by omega)
      have g1 : (nI i < nI i) = False := eq_false (fun z => Int32.lt_irrefl z)
      have es := sub_nI (a := P) (b := i) (by omega)
      refine goN go (stp [38]) 160 _ _ _ _ _ _ (fun F hF hF0 => ?_)
      simp only [hF, hF0, ite_not, i_push, i_iload, i_lload, i_aload, i_istore, i_astore, i_lstore, i_iinc, i_bin, i_dv, i_un, i_lbin, i_lsh, i_i2l, i_l2i, i_lcmp, i_dup, i_dup2, i_pop, i_if, i_icmp, i_goto, swG, i_sw, i_getf, i_puti, i_putz, i_putr, i_ald, i_lald, i_aald, i_ast, i_last, i_aast, i_alen, i_new, i_newi, i_newl, i_newq, i_oinit, i_ret, i_zret, i_lret, i_vret, catS, tk, rpush, isO, i_m1, i_m2, i_acopy, i_callV, i_callS, KRet, lget, lput, lputL, lcl0, isL, lv0, List.map_cons, List.map_nil, List.length_cons, List.length_nil, List.cons_append, List.nil_append, Nat.reduceAdd, Nat.reduceSub, Nat.reduceLeDiff, List.replicate_succ, List.replicate_zero, List.getElem?_cons_succ, List.getElem?_cons_zero, List.set_cons_succ, List.set_cons_zero, true_and, and_true, if_true, if_false, ↓reduceIte, Nat.le_refl, Value.category, va_up_app, eq_self, stp, Nat.reduceBEq, Bool.or_false, Bool.false_or, Bool.true_or, Bool.or_true, or_true, true_or, bx_uu, implies_true, true_implies, not_true, not_false_eq_true, false_implies, and_self, Nat.reduceLT, Int32.reduceAdd, Int32.reduceSub, Int32.reduceMul, Int32.reduceLE, Int32.reduceLT, Int32.reduceToNatClampNeg, va_rf_some, Bool.false_eq_true, k_X3_partOfLeastRow_0 ca, k_X3_partOfLeastRow_1 ca, k_X3_partOfLeastRow_3 ca, k_X3_partOfLeastRow_4 ca, k_X3_partOfLeastRow_5 ca, k_X3_partOfLeastRow_6 ca, k_X3_partOfLeastRow_9 ca, k_X3_partOfLeastRow_12 ca, k_X3_partOfLeastRow_14 ca, k_X3_partOfLeastRow_15 ca, k_X3_partOfLeastRow_17 ca, k_X3_partOfLeastRow_18 ca, k_X3_partOfLeastRow_20 ca, k_X3_partOfLeastRow_22 ca, k_X3_partOfLeastRow_23 ca, k_X3_partOfLeastRow_26 ca, k_X3_partOfLeastRow_27 ca, k_X3_partOfLeastRow_28 ca, k_X3_partOfLeastRow_30 ca, k_X3_partOfLeastRow_31 ca, k_X3_partOfLeastRow_33 ca, k_X3_partOfLeastRow_35 ca, k_X3_partOfLeastRow_38 ca, k_X3_partOfLeastRow_40 ca, k_X3_partOfLeastRow_42 ca, k_X3_partOfLeastRow_44 ca, k_X3_partOfLeastRow_46 ca, k_X3_partOfLeastRow_47 ca, k_X3_partOfLeastRow_48 ca, k_X3_partOfLeastRow_50 ca, k_X3_partOfLeastRow_52 ca, k_X3_partOfLeastRow_53 ca, k_X3_partOfLeastRow_56 ca, k_X3_partOfLeastRow_57 ca, k_X3_partOfLeastRow_58 ca, k_X3_partOfLeastRow_60 ca, k_X3_partOfLeastRow_62 ca, k_X3_partOfLeastRow_64 ca, k_X3_partOfLeastRow_66 ca, k_X3_partOfLeastRow_67 ca, k_X3_partOfLeastRow_68 ca, k_X3_partOfLeastRow_70 ca, k_X3_partOfLeastRow_73 ca, k_X3_partOfLeastRow_76 ca, k_X3_partOfLeastRow_78 ca, k_X3_partOfLeastRow_104 ca, k_X3_partOfLeastRow_106 ca, k_X3_partOfLeastRow_108 ca, k_X3_partOfLeastRow_109 ca, k_X3_partOfLeastRow_110 ca, k_X3_partOfLeastRow_112 ca, k_X3_partOfLeastRow_114 ca, k_X3_partOfLeastRow_115 ca, k_X3_partOfLeastRow_117 ca, k_X3_partOfLeastRow_118 ca, k_X3_partOfLeastRow_119 ca, k_X3_partOfLeastRow_121 ca, k_X3_partOfLeastRow_123 ca, k_X3_partOfLeastRow_124 ca, g1, es, e0', eLT]
      try clear hF hF0 F
      refine ⟨x5, nx, tm, pp, pc, ox, tx, Nf, pr, P - i, (LT i).toNat, RS i, kk i, by omega, by omega, by omega, by omega, by omega, rfl, hF, a1, by rw [show ((LT i).toNat : Int) = LT i by omega]; exact a2, by rw [show ((LT i).toNat : Int) = LT i by omega]; exact a3, ?_⟩
      have d36 := div36 (k := kk i + 36) (by omega)
      have r36 := rem36 (k := kk i + 36) (by omega)
      have r36b := rem36b (k := kk i + 36) (by omega)
      have m36 : (kk i + 36) % 36 = kk i % 36 := by omega
      have q36 : (kk i + 36) / 36 = kk i / 36 + 1 := by omega
      refine goN go (stp [56]) 160 _ _ _ _ _ _ (fun F hF hF0 => ?_)
      simp only [hF, hF0, ite_not, i_push, i_iload, i_lload, i_aload, i_istore, i_astore, i_lstore, i_iinc, i_bin, i_dv, i_un, i_lbin, i_lsh, i_i2l, i_l2i, i_lcmp, i_dup, i_dup2, i_pop, i_if, i_icmp, i_goto, swG, i_sw, i_getf, i_puti, i_putz, i_putr, i_ald, i_lald, i_aald, i_ast, i_last, i_aast, i_alen, i_new, i_newi, i_newl, i_newq, i_oinit, i_ret, i_zret, i_lret, i_vret, catS, tk, rpush, isO, i_m1, i_m2, i_acopy, i_callV, i_callS, KRet, lget, lput, lputL, lcl0, isL, lv0, List.map_cons, List.map_nil, List.length_cons, List.length_nil, List.cons_append, List.nil_append, Nat.reduceAdd, Nat.reduceSub, Nat.reduceLeDiff, List.replicate_succ, List.replicate_zero, List.getElem?_cons_succ, List.getElem?_cons_zero, List.set_cons_succ, List.set_cons_zero, true_and, and_true, if_true, if_false, ↓reduceIte, Nat.le_refl, Value.category, va_up_app, eq_self, stp, Nat.reduceBEq, Bool.or_false, Bool.false_or, Bool.true_or, Bool.or_true, or_true, true_or, bx_uu, implies_true, true_implies, not_true, not_false_eq_true, false_implies, and_self, Nat.reduceLT, Int32.reduceAdd, Int32.reduceSub, Int32.reduceMul, Int32.reduceLE, Int32.reduceLT, Int32.reduceToNatClampNeg, va_rf_some, Bool.false_eq_true, k_X3_partOfLeastRow_0 ca, k_X3_partOfLeastRow_1 ca, k_X3_partOfLeastRow_3 ca, k_X3_partOfLeastRow_4 ca, k_X3_partOfLeastRow_5 ca, k_X3_partOfLeastRow_6 ca, k_X3_partOfLeastRow_9 ca, k_X3_partOfLeastRow_12 ca, k_X3_partOfLeastRow_14 ca, k_X3_partOfLeastRow_15 ca, k_X3_partOfLeastRow_17 ca, k_X3_partOfLeastRow_18 ca, k_X3_partOfLeastRow_20 ca, k_X3_partOfLeastRow_22 ca, k_X3_partOfLeastRow_23 ca, k_X3_partOfLeastRow_26 ca, k_X3_partOfLeastRow_27 ca, k_X3_partOfLeastRow_28 ca, k_X3_partOfLeastRow_30 ca, k_X3_partOfLeastRow_31 ca, k_X3_partOfLeastRow_33 ca, k_X3_partOfLeastRow_35 ca, k_X3_partOfLeastRow_38 ca, k_X3_partOfLeastRow_40 ca, k_X3_partOfLeastRow_42 ca, k_X3_partOfLeastRow_44 ca, k_X3_partOfLeastRow_46 ca, k_X3_partOfLeastRow_47 ca, k_X3_partOfLeastRow_48 ca, k_X3_partOfLeastRow_50 ca, k_X3_partOfLeastRow_52 ca, k_X3_partOfLeastRow_53 ca, k_X3_partOfLeastRow_56 ca, k_X3_partOfLeastRow_57 ca, k_X3_partOfLeastRow_58 ca, k_X3_partOfLeastRow_60 ca, k_X3_partOfLeastRow_62 ca, k_X3_partOfLeastRow_64 ca, k_X3_partOfLeastRow_66 ca, k_X3_partOfLeastRow_67 ca, k_X3_partOfLeastRow_68 ca, k_X3_partOfLeastRow_70 ca, k_X3_partOfLeastRow_73 ca, k_X3_partOfLeastRow_76 ca, k_X3_partOfLeastRow_78 ca, k_X3_partOfLeastRow_104 ca, k_X3_partOfLeastRow_106 ca, k_X3_partOfLeastRow_108 ca, k_X3_partOfLeastRow_109 ca, k_X3_partOfLeastRow_110 ca, k_X3_partOfLeastRow_112 ca, k_X3_partOfLeastRow_114 ca, k_X3_partOfLeastRow_115 ca, k_X3_partOfLeastRow_117 ca, k_X3_partOfLeastRow_118 ca, k_X3_partOfLeastRow_119 ca, k_X3_partOfLeastRow_121 ca, k_X3_partOfLeastRow_123 ca, k_X3_partOfLeastRow_124 ca, e0', d36, r36, r36b, n360]
      try clear hF hF0 F
      refine ⟨x5, nx, tm, pp, nI pc, ox, tx, Nf, (kk i + 36) % 36, by omega, rfl, e0, hNu, ?_⟩
      have g2 : (nI i < nI (i + 1)) = True := eq_true (nI_lt (by omega) (by omega))
      unfold stV at hs
      have hW3 : W = 0 ∨ W = 1 ∨ W = 2 := by omega
      rcases hW3 with rfl | rfl | rfl
      · rw [if_pos rfl, ← q36] at hs
        rw [nI_0]
        refine goN go (stp []) 160 _ _ _ _ _ _ (fun F hF hF0 => ?_)
        simp only [hF, hF0, ite_not, i_push, i_iload, i_lload, i_aload, i_istore, i_astore, i_lstore, i_iinc, i_bin, i_dv, i_un, i_lbin, i_lsh, i_i2l, i_l2i, i_lcmp, i_dup, i_dup2, i_pop, i_if, i_icmp, i_goto, swG, i_sw, i_getf, i_puti, i_putz, i_putr, i_ald, i_lald, i_aald, i_ast, i_last, i_aast, i_alen, i_new, i_newi, i_newl, i_newq, i_oinit, i_ret, i_zret, i_lret, i_vret, catS, tk, rpush, isO, i_m1, i_m2, i_acopy, i_callV, i_callS, KRet, lget, lput, lputL, lcl0, isL, lv0, List.map_cons, List.map_nil, List.length_cons, List.length_nil, List.cons_append, List.nil_append, Nat.reduceAdd, Nat.reduceSub, Nat.reduceLeDiff, List.replicate_succ, List.replicate_zero, List.getElem?_cons_succ, List.getElem?_cons_zero, List.set_cons_succ, List.set_cons_zero, true_and, and_true, if_true, if_false, ↓reduceIte, Nat.le_refl, Value.category, va_up_app, eq_self, stp, Nat.reduceBEq, Bool.or_false, Bool.false_or, Bool.true_or, Bool.or_true, or_true, true_or, bx_uu, implies_true, true_implies, not_true, not_false_eq_true, false_implies, and_self, Nat.reduceLT, Int32.reduceAdd, Int32.reduceSub, Int32.reduceMul, Int32.reduceLE, Int32.reduceLT, Int32.reduceToNatClampNeg, va_rf_some, Bool.false_eq_true, k_X3_partOfLeastRow_0 ca, k_X3_partOfLeastRow_1 ca, k_X3_partOfLeastRow_3 ca, k_X3_partOfLeastRow_4 ca, k_X3_partOfLeastRow_5 ca, k_X3_partOfLeastRow_6 ca, k_X3_partOfLeastRow_9 ca, k_X3_partOfLeastRow_12 ca, k_X3_partOfLeastRow_14 ca, k_X3_partOfLeastRow_15 ca, k_X3_partOfLeastRow_17 ca, k_X3_partOfLeastRow_18 ca, k_X3_partOfLeastRow_20 ca, k_X3_partOfLeastRow_22 ca, k_X3_partOfLeastRow_23 ca, k_X3_partOfLeastRow_26 ca, k_X3_partOfLeastRow_27 ca, k_X3_partOfLeastRow_28 ca, k_X3_partOfLeastRow_30 ca, k_X3_partOfLeastRow_31 ca, k_X3_partOfLeastRow_33 ca, k_X3_partOfLeastRow_35 ca, k_X3_partOfLeastRow_38 ca, k_X3_partOfLeastRow_40 ca, k_X3_partOfLeastRow_42 ca, k_X3_partOfLeastRow_44 ca, k_X3_partOfLeastRow_46 ca, k_X3_partOfLeastRow_47 ca, k_X3_partOfLeastRow_48 ca, k_X3_partOfLeastRow_50 ca, k_X3_partOfLeastRow_52 ca, k_X3_partOfLeastRow_53 ca, k_X3_partOfLeastRow_56 ca, k_X3_partOfLeastRow_57 ca, k_X3_partOfLeastRow_58 ca, k_X3_partOfLeastRow_60 ca, k_X3_partOfLeastRow_62 ca, k_X3_partOfLeastRow_64 ca, k_X3_partOfLeastRow_66 ca, k_X3_partOfLeastRow_67 ca, k_X3_partOfLeastRow_68 ca, k_X3_partOfLeastRow_70 ca, k_X3_partOfLeastRow_73 ca, k_X3_partOfLeastRow_76 ca, k_X3_partOfLeastRow_78 ca, k_X3_partOfLeastRow_104 ca, k_X3_partOfLeastRow_106 ca, k_X3_partOfLeastRow_108 ca, k_X3_partOfLeastRow_109 ca, k_X3_partOfLeastRow_110 ca, k_X3_partOfLeastRow_112 ca, k_X3_partOfLeastRow_114 ca, k_X3_partOfLeastRow_115 ca, k_X3_partOfLeastRow_117 ca, k_X3_partOfLeastRow_118 ca, k_X3_partOfLeastRow_119 ca, k_X3_partOfLeastRow_121 ca, k_X3_partOfLeastRow_123 ca, k_X3_partOfLeastRow_124 ca, d36, n360, a_1, g2]
        try clear hF hF0 F
        exact hs
      · rw [if_neg (by decide), if_pos rfl] at hs
        have d6 := div6 (k := (kk i + 36) % 36) (by omega)
        have e6 : (kk i + 36) % 36 / 6 = kk i / 6 % 6 := by omega
        rw [← e6] at hs
        rw [n1]
        refine goN go (stp []) 160 _ _ _ _ _ _ (fun F hF hF0 => ?_)
        simp only [hF, hF0, ite_not, i_push, i_iload, i_lload, i_aload, i_istore, i_astore, i_lstore, i_iinc, i_bin, i_dv, i_un, i_lbin, i_lsh, i_i2l, i_l2i, i_lcmp, i_dup, i_dup2, i_pop, i_if, i_icmp, i_goto, swG, i_sw, i_getf, i_puti, i_putz, i_putr, i_ald, i_lald, i_aald, i_ast, i_last, i_aast, i_alen, i_new, i_newi, i_newl, i_newq, i_oinit, i_ret, i_zret, i_lret, i_vret, catS, tk, rpush, isO, i_m1, i_m2, i_acopy, i_callV, i_callS, KRet, lget, lput, lputL, lcl0, isL, lv0, List.map_cons, List.map_nil, List.length_cons, List.length_nil, List.cons_append, List.nil_append, Nat.reduceAdd, Nat.reduceSub, Nat.reduceLeDiff, List.replicate_succ, List.replicate_zero, List.getElem?_cons_succ, List.getElem?_cons_zero, List.set_cons_succ, List.set_cons_zero, true_and, and_true, if_true, if_false, ↓reduceIte, Nat.le_refl, Value.category, va_up_app, eq_self, stp, Nat.reduceBEq, Bool.or_false, Bool.false_or, Bool.true_or, Bool.or_true, or_true, true_or, bx_uu, implies_true, true_implies, not_true, not_false_eq_true, false_implies, and_self, Nat.reduceLT, Int32.reduceAdd, Int32.reduceSub, Int32.reduceMul, Int32.reduceLE, Int32.reduceLT, Int32.reduceToNatClampNeg, va_rf_some, Bool.false_eq_true, k_X3_partOfLeastRow_0 ca, k_X3_partOfLeastRow_1 ca, k_X3_partOfLeastRow_3 ca, k_X3_partOfLeastRow_4 ca, k_X3_partOfLeastRow_5 ca, k_X3_partOfLeastRow_6 ca, k_X3_partOfLeastRow_9 ca, k_X3_partOfLeastRow_12 ca, k_X3_partOfLeastRow_14 ca, k_X3_partOfLeastRow_15 ca, k_X3_partOfLeastRow_17 ca, k_X3_partOfLeastRow_18 ca, k_X3_partOfLeastRow_20 ca, k_X3_partOfLeastRow_22 ca, k_X3_partOfLeastRow_23 ca, k_X3_partOfLeastRow_26 ca, k_X3_partOfLeastRow_27 ca, k_X3_partOfLeastRow_28 ca, k_X3_partOfLeastRow_30 ca, k_X3_partOfLeastRow_31 ca, k_X3_partOfLeastRow_33 ca, k_X3_partOfLeastRow_35 ca, k_X3_partOfLeastRow_38 ca, k_X3_partOfLeastRow_40 ca, k_X3_partOfLeastRow_42 ca, k_X3_partOfLeastRow_44 ca, k_X3_partOfLeastRow_46 ca, k_X3_partOfLeastRow_47 ca, k_X3_partOfLeastRow_48 ca, k_X3_partOfLeastRow_50 ca, k_X3_partOfLeastRow_52 ca, k_X3_partOfLeastRow_53 ca, k_X3_partOfLeastRow_56 ca, k_X3_partOfLeastRow_57 ca, k_X3_partOfLeastRow_58 ca, k_X3_partOfLeastRow_60 ca, k_X3_partOfLeastRow_62 ca, k_X3_partOfLeastRow_64 ca, k_X3_partOfLeastRow_66 ca, k_X3_partOfLeastRow_67 ca, k_X3_partOfLeastRow_68 ca, k_X3_partOfLeastRow_70 ca, k_X3_partOfLeastRow_73 ca, k_X3_partOfLeastRow_76 ca, k_X3_partOfLeastRow_78 ca, k_X3_partOfLeastRow_104 ca, k_X3_partOfLeastRow_106 ca, k_X3_partOfLeastRow_108 ca, k_X3_partOfLeastRow_109 ca, k_X3_partOfLeastRow_110 ca, k_X3_partOfLeastRow_112 ca, k_X3_partOfLeastRow_114 ca, k_X3_partOfLeastRow_115 ca, k_X3_partOfLeastRow_117 ca, k_X3_partOfLeastRow_118 ca, k_X3_partOfLeastRow_119 ca, k_X3_partOfLeastRow_121 ca, k_X3_partOfLeastRow_123 ca, k_X3_partOfLeastRow_124 ca, d36, r36, r36b, n360, a_1, g2, d6, n60, one0]
        try clear hF hF0 F
        exact hs
      · rw [if_neg (by decide), if_neg (by decide)] at hs
        have r6 := rem6 (k := kk i + 36) (by omega)
        have r6b := rem6b (k := kk i + 36) (by omega)
        have d6 := div6 (k := kk i + 36) (by omega)
        have e6 : (kk i + 36) % 6 = kk i % 6 := by omega
        rw [← e6] at hs
        rw [n2]
        refine goN go (stp []) 160 _ _ _ _ _ _ (fun F hF hF0 => ?_)
        simp only [hF, hF0, ite_not, i_push, i_iload, i_lload, i_aload, i_istore, i_astore, i_lstore, i_iinc, i_bin, i_dv, i_un, i_lbin, i_lsh, i_i2l, i_l2i, i_lcmp, i_dup, i_dup2, i_pop, i_if, i_icmp, i_goto, swG, i_sw, i_getf, i_puti, i_putz, i_putr, i_ald, i_lald, i_aald, i_ast, i_last, i_aast, i_alen, i_new, i_newi, i_newl, i_newq, i_oinit, i_ret, i_zret, i_lret, i_vret, catS, tk, rpush, isO, i_m1, i_m2, i_acopy, i_callV, i_callS, KRet, lget, lput, lputL, lcl0, isL, lv0, List.map_cons, List.map_nil, List.length_cons, List.length_nil, List.cons_append, List.nil_append, Nat.reduceAdd, Nat.reduceSub, Nat.reduceLeDiff, List.replicate_succ, List.replicate_zero, List.getElem?_cons_succ, List.getElem?_cons_zero, List.set_cons_succ, List.set_cons_zero, true_and, and_true, if_true, if_false, ↓reduceIte, Nat.le_refl, Value.category, va_up_app, eq_self, stp, Nat.reduceBEq, Bool.or_false, Bool.false_or, Bool.true_or, Bool.or_true, or_true, true_or, bx_uu, implies_true, true_implies, not_true, not_false_eq_true, false_implies, and_self, Nat.reduceLT, Int32.reduceAdd, Int32.reduceSub, Int32.reduceMul, Int32.reduceLE, Int32.reduceLT, Int32.reduceToNatClampNeg, va_rf_some, Bool.false_eq_true, k_X3_partOfLeastRow_0 ca, k_X3_partOfLeastRow_1 ca, k_X3_partOfLeastRow_3 ca, k_X3_partOfLeastRow_4 ca, k_X3_partOfLeastRow_5 ca, k_X3_partOfLeastRow_6 ca, k_X3_partOfLeastRow_9 ca, k_X3_partOfLeastRow_12 ca, k_X3_partOfLeastRow_14 ca, k_X3_partOfLeastRow_15 ca, k_X3_partOfLeastRow_17 ca, k_X3_partOfLeastRow_18 ca, k_X3_partOfLeastRow_20 ca, k_X3_partOfLeastRow_22 ca, k_X3_partOfLeastRow_23 ca, k_X3_partOfLeastRow_26 ca, k_X3_partOfLeastRow_27 ca, k_X3_partOfLeastRow_28 ca, k_X3_partOfLeastRow_30 ca, k_X3_partOfLeastRow_31 ca, k_X3_partOfLeastRow_33 ca, k_X3_partOfLeastRow_35 ca, k_X3_partOfLeastRow_38 ca, k_X3_partOfLeastRow_40 ca, k_X3_partOfLeastRow_42 ca, k_X3_partOfLeastRow_44 ca, k_X3_partOfLeastRow_46 ca, k_X3_partOfLeastRow_47 ca, k_X3_partOfLeastRow_48 ca, k_X3_partOfLeastRow_50 ca, k_X3_partOfLeastRow_52 ca, k_X3_partOfLeastRow_53 ca, k_X3_partOfLeastRow_56 ca, k_X3_partOfLeastRow_57 ca, k_X3_partOfLeastRow_58 ca, k_X3_partOfLeastRow_60 ca, k_X3_partOfLeastRow_62 ca, k_X3_partOfLeastRow_64 ca, k_X3_partOfLeastRow_66 ca, k_X3_partOfLeastRow_67 ca, k_X3_partOfLeastRow_68 ca, k_X3_partOfLeastRow_70 ca, k_X3_partOfLeastRow_73 ca, k_X3_partOfLeastRow_76 ca, k_X3_partOfLeastRow_78 ca, k_X3_partOfLeastRow_104 ca, k_X3_partOfLeastRow_106 ca, k_X3_partOfLeastRow_108 ca, k_X3_partOfLeastRow_109 ca, k_X3_partOfLeastRow_110 ca, k_X3_partOfLeastRow_112 ca, k_X3_partOfLeastRow_114 ca, k_X3_partOfLeastRow_115 ca, k_X3_partOfLeastRow_117 ca, k_X3_partOfLeastRow_118 ca, k_X3_partOfLeastRow_119 ca, k_X3_partOfLeastRow_121 ca, k_X3_partOfLeastRow_123 ca, k_X3_partOfLeastRow_124 ca, d36, r36, r36b, n360, a_1, g2, r6, r6b, d6, n60]
        try clear hF hF0 F
        exact hs
    | succ r ih =>
      intro i x7 hi
      obtain ⟨a1, a2, a3, a4, a5⟩ := hrow.2.2 i (by omega)
      have hLn := RowZ_LT hN hrow (n := i) (by omega)
      have hL2 := hLT2 i (by omega)
      have hR := hRS i (by omega)
      have eLT : zI (LT i) = nI (LT i).toNat := by rw [zI_n]; exact congrArg zI (by omega)
      have g1 : (nI I < nI i) = False := eq_false (nI_nlt (by omega) (by omega))
      have es := sub_nI (a := P) (b := i) (by omega)
      refine goN go (stp [38]) 160 _ _ _ _ _ _ (fun F hF hF0 => ?_)
      simp only [hF, hF0, ite_not, i_push, i_iload, i_lload, i_aload, i_istore, i_astore, i_lstore, i_iinc, i_bin, i_dv, i_un, i_lbin, i_lsh, i_i2l, i_l2i, i_lcmp, i_dup, i_dup2, i_pop, i_if, i_icmp, i_goto, swG, i_sw, i_getf, i_puti, i_putz, i_putr, i_ald, i_lald, i_aald, i_ast, i_last, i_aast, i_alen, i_new, i_newi, i_newl, i_newq, i_oinit, i_ret, i_zret, i_lret, i_vret, catS, tk, rpush, isO, i_m1, i_m2, i_acopy, i_callV, i_callS, KRet, lget, lput, lputL, lcl0, isL, lv0, List.map_cons, List.map_nil, List.length_cons, List.length_nil, List.cons_append, List.nil_append, Nat.reduceAdd, Nat.reduceSub, Nat.reduceLeDiff, List.replicate_succ, List.replicate_zero, List.getElem?_cons_succ, List.getElem?_cons_zero, List.set_cons_succ, List.set_cons_zero, true_and, and_true, if_true, if_false, ↓reduceIte, Nat.le_refl, Value.category, va_up_app, eq_self, stp, Nat.reduceBEq, Bool.or_false, Bool.false_or, Bool.true_or, Bool.or_true, or_true, true_or, bx_uu, implies_true, true_implies, not_true, not_false_eq_true, false_implies, and_self, Nat.reduceLT, Int32.reduceAdd, Int32.reduceSub, Int32.reduceMul, Int32.reduceLE, Int32.reduceLT, Int32.reduceToNatClampNeg, va_rf_some, Bool.false_eq_true, k_X3_partOfLeastRow_0 ca, k_X3_partOfLeastRow_1 ca, k_X3_partOfLeastRow_3 ca, k_X3_partOfLeastRow_4 ca, k_X3_partOfLeastRow_5 ca, k_X3_partOfLeastRow_6 ca, k_X3_partOfLeastRow_9 ca, k_X3_partOfLeastRow_12 ca, k_X3_partOfLeastRow_14 ca, k_X3_partOfLeastRow_15 ca, k_X3_partOfLeastRow_17 ca, k_X3_partOfLeastRow_18 ca, k_X3_partOfLeastRow_20 ca, k_X3_partOfLeastRow_22 ca, k_X3_partOfLeastRow_23 ca, k_X3_partOfLeastRow_26 ca, k_X3_partOfLeastRow_27 ca, k_X3_partOfLeastRow_28 ca, k_X3_partOfLeastRow_30 ca, k_X3_partOfLeastRow_31 ca, k_X3_partOfLeastRow_33 ca, k_X3_partOfLeastRow_35 ca, k_X3_partOfLeastRow_38 ca, k_X3_partOfLeastRow_40 ca, k_X3_partOfLeastRow_42 ca, k_X3_partOfLeastRow_44 ca, k_X3_partOfLeastRow_46 ca, k_X3_partOfLeastRow_47 ca, k_X3_partOfLeastRow_48 ca, k_X3_partOfLeastRow_50 ca, k_X3_partOfLeastRow_52 ca, k_X3_partOfLeastRow_53 ca, k_X3_partOfLeastRow_56 ca, k_X3_partOfLeastRow_57 ca, k_X3_partOfLeastRow_58 ca, k_X3_partOfLeastRow_60 ca, k_X3_partOfLeastRow_62 ca, k_X3_partOfLeastRow_64 ca, k_X3_partOfLeastRow_66 ca, k_X3_partOfLeastRow_67 ca, k_X3_partOfLeastRow_68 ca, k_X3_partOfLeastRow_70 ca, k_X3_partOfLeastRow_73 ca, k_X3_partOfLeastRow_76 ca, k_X3_partOfLeastRow_78 ca, k_X3_partOfLeastRow_104 ca, k_X3_partOfLeastRow_106 ca, k_X3_partOfLeastRow_108 ca, k_X3_partOfLeastRow_109 ca, k_X3_partOfLeastRow_110 ca, k_X3_partOfLeastRow_112 ca, k_X3_partOfLeastRow_114 ca, k_X3_partOfLeastRow_115 ca, k_X3_partOfLeastRow_117 ca, k_X3_partOfLeastRow_118 ca, k_X3_partOfLeastRow_119 ca, k_X3_partOfLeastRow_121 ca, k_X3_partOfLeastRow_123 ca, k_X3_partOfLeastRow_124 ca, g1, es, e0', eLT]
      try clear hF hF0 F
      refine ⟨x5, nx, tm, pp, pc, ox, tx, Nf, pr, P - i, (LT i).toNat, RS i, kk i, by omega, by omega, by omega, by omega, by omega, rfl, hF, a1, by rw [show ((LT i).toNat : Int) = LT i by omega]; exact a2, by rw [show ((LT i).toNat : Int) = LT i by omega]; exact a3, ?_⟩
      have d36 := div36 (k := kk i + 36) (by omega)
      have r36 := rem36 (k := kk i + 36) (by omega)
      have r36b := rem36b (k := kk i + 36) (by omega)
      refine goN go (stp [56]) 160 _ _ _ _ _ _ (fun F hF hF0 => ?_)
      simp only [hF, hF0, ite_not, i_push, i_iload, i_lload, i_aload, i_istore, i_astore, i_lstore, i_iinc, i_bin, i_dv, i_un, i_lbin, i_lsh, i_i2l, i_l2i, i_lcmp, i_dup, i_dup2, i_pop, i_if, i_icmp, i_goto, swG, i_sw, i_getf, i_puti, i_putz, i_putr, i_ald, i_lald, i_aald, i_ast, i_last, i_aast, i_alen, i_new, i_newi, i_newl, i_newq, i_oinit, i_ret, i_zret, i_lret, i_vret, catS, tk, rpush, isO, i_m1, i_m2, i_acopy, i_callV, i_callS, KRet, lget, lput, lputL, lcl0, isL, lv0, List.map_cons, List.map_nil, List.length_cons, List.length_nil, List.cons_append, List.nil_append, Nat.reduceAdd, Nat.reduceSub, Nat.reduceLeDiff, List.replicate_succ, List.replicate_zero, List.getElem?_cons_succ, List.getElem?_cons_zero, List.set_cons_succ, List.set_cons_zero, true_and, and_true, if_true, if_false, ↓reduceIte, Nat.le_refl, Value.category, va_up_app, eq_self, stp, Nat.reduceBEq, Bool.or_false, Bool.false_or, Bool.true_or, Bool.or_true, or_true, true_or, bx_uu, implies_true, true_implies, not_true, not_false_eq_true, false_implies, and_self, Nat.reduceLT, Int32.reduceAdd, Int32.reduceSub, Int32.reduceMul, Int32.reduceLE, Int32.reduceLT, Int32.reduceToNatClampNeg, va_rf_some, Bool.false_eq_true, k_X3_partOfLeastRow_0 ca, k_X3_partOfLeastRow_1 ca, k_X3_partOfLeastRow_3 ca, k_X3_partOfLeastRow_4 ca, k_X3_partOfLeastRow_5 ca, k_X3_partOfLeastRow_6 ca, k_X3_partOfLeastRow_9 ca, k_X3_partOfLeastRow_12 ca, k_X3_partOfLeastRow_14 ca, k_X3_partOfLeastRow_15 ca, k_X3_partOfLeastRow_17 ca, k_X3_partOfLeastRow_18 ca, k_X3_partOfLeastRow_20 ca, k_X3_partOfLeastRow_22 ca, k_X3_partOfLeastRow_23 ca, k_X3_partOfLeastRow_26 ca, k_X3_partOfLeastRow_27 ca, k_X3_partOfLeastRow_28 ca, k_X3_partOfLeastRow_30 ca, k_X3_partOfLeastRow_31 ca, k_X3_partOfLeastRow_33 ca, k_X3_partOfLeastRow_35 ca, k_X3_partOfLeastRow_38 ca, k_X3_partOfLeastRow_40 ca, k_X3_partOfLeastRow_42 ca, k_X3_partOfLeastRow_44 ca, k_X3_partOfLeastRow_46 ca, k_X3_partOfLeastRow_47 ca, k_X3_partOfLeastRow_48 ca, k_X3_partOfLeastRow_50 ca, k_X3_partOfLeastRow_52 ca, k_X3_partOfLeastRow_53 ca, k_X3_partOfLeastRow_56 ca, k_X3_partOfLeastRow_57 ca, k_X3_partOfLeastRow_58 ca, k_X3_partOfLeastRow_60 ca, k_X3_partOfLeastRow_62 ca, k_X3_partOfLeastRow_64 ca, k_X3_partOfLeastRow_66 ca, k_X3_partOfLeastRow_67 ca, k_X3_partOfLeastRow_68 ca, k_X3_partOfLeastRow_70 ca, k_X3_partOfLeastRow_73 ca, k_X3_partOfLeastRow_76 ca, k_X3_partOfLeastRow_78 ca, k_X3_partOfLeastRow_104 ca, k_X3_partOfLeastRow_106 ca, k_X3_partOfLeastRow_108 ca, k_X3_partOfLeastRow_109 ca, k_X3_partOfLeastRow_110 ca, k_X3_partOfLeastRow_112 ca, k_X3_partOfLeastRow_114 ca, k_X3_partOfLeastRow_115 ca, k_X3_partOfLeastRow_117 ca, k_X3_partOfLeastRow_118 ca, k_X3_partOfLeastRow_119 ca, k_X3_partOfLeastRow_121 ca, k_X3_partOfLeastRow_123 ca, k_X3_partOfLeastRow_124 ca, e0', d36, r36, r36b, n360]
      try clear hF hF0 F
      refine ⟨x5, nx, tm, pp, nI pc, ox, tx, Nf, (kk i + 36) % 36, by omega, rfl, e0, hNu, ?_⟩
      have k0 := ih (i + 1) (some (.int (nI (kk i + 36)))) (by omega)
      rw [a4, a5, ← zI_sub, ← zI_sub, ← z_mul, ← zI_n, eLT, show kk i / 36 + 1 = (kk i + 36) / 36 by omega, show kk i % 36 = (kk i + 36) % 36 by omega] at k0
      refine goN go (stp [20]) 160 _ _ _ _ _ _ (fun F hF hF0 => ?_)
      simp only [hF, hF0, ite_not, i_push, i_iload, i_lload, i_aload, i_istore, i_astore, i_lstore, i_iinc, i_bin, i_dv, i_un, i_lbin, i_lsh, i_i2l, i_l2i, i_lcmp, i_dup, i_dup2, i_pop, i_if, i_icmp, i_goto, swG, i_sw, i_getf, i_puti, i_putz, i_putr, i_ald, i_lald, i_aald, i_ast, i_last, i_aast, i_alen, i_new, i_newi, i_newl, i_newq, i_oinit, i_ret, i_zret, i_lret, i_vret, catS, tk, rpush, isO, i_m1, i_m2, i_acopy, i_callV, i_callS, KRet, lget, lput, lputL, lcl0, isL, lv0, List.map_cons, List.map_nil, List.length_cons, List.length_nil, List.cons_append, List.nil_append, Nat.reduceAdd, Nat.reduceSub, Nat.reduceLeDiff, List.replicate_succ, List.replicate_zero, List.getElem?_cons_succ, List.getElem?_cons_zero, List.set_cons_succ, List.set_cons_zero, true_and, and_true, if_true, if_false, ↓reduceIte, Nat.le_refl, Value.category, va_up_app, eq_self, stp, Nat.reduceBEq, Bool.or_false, Bool.false_or, Bool.true_or, Bool.or_true, or_true, true_or, bx_uu, implies_true, true_implies, not_true, not_false_eq_true, false_implies, and_self, Nat.reduceLT, Int32.reduceAdd, Int32.reduceSub, Int32.reduceMul, Int32.reduceLE, Int32.reduceLT, Int32.reduceToNatClampNeg, va_rf_some, Bool.false_eq_true, k_X3_partOfLeastRow_0 ca, k_X3_partOfLeastRow_1 ca, k_X3_partOfLeastRow_3 ca, k_X3_partOfLeastRow_4 ca, k_X3_partOfLeastRow_5 ca, k_X3_partOfLeastRow_6 ca, k_X3_partOfLeastRow_9 ca, k_X3_partOfLeastRow_12 ca, k_X3_partOfLeastRow_14 ca, k_X3_partOfLeastRow_15 ca, k_X3_partOfLeastRow_17 ca, k_X3_partOfLeastRow_18 ca, k_X3_partOfLeastRow_20 ca, k_X3_partOfLeastRow_22 ca, k_X3_partOfLeastRow_23 ca, k_X3_partOfLeastRow_26 ca, k_X3_partOfLeastRow_27 ca, k_X3_partOfLeastRow_28 ca, k_X3_partOfLeastRow_30 ca, k_X3_partOfLeastRow_31 ca, k_X3_partOfLeastRow_33 ca, k_X3_partOfLeastRow_35 ca, k_X3_partOfLeastRow_38 ca, k_X3_partOfLeastRow_40 ca, k_X3_partOfLeastRow_42 ca, k_X3_partOfLeastRow_44 ca, k_X3_partOfLeastRow_46 ca, k_X3_partOfLeastRow_47 ca, k_X3_partOfLeastRow_48 ca, k_X3_partOfLeastRow_50 ca, k_X3_partOfLeastRow_52 ca, k_X3_partOfLeastRow_53 ca, k_X3_partOfLeastRow_56 ca, k_X3_partOfLeastRow_57 ca, k_X3_partOfLeastRow_58 ca, k_X3_partOfLeastRow_60 ca, k_X3_partOfLeastRow_62 ca, k_X3_partOfLeastRow_64 ca, k_X3_partOfLeastRow_66 ca, k_X3_partOfLeastRow_67 ca, k_X3_partOfLeastRow_68 ca, k_X3_partOfLeastRow_70 ca, k_X3_partOfLeastRow_73 ca, k_X3_partOfLeastRow_76 ca, k_X3_partOfLeastRow_78 ca, k_X3_partOfLeastRow_104 ca, k_X3_partOfLeastRow_106 ca, k_X3_partOfLeastRow_108 ca, k_X3_partOfLeastRow_109 ca, k_X3_partOfLeastRow_110 ca, k_X3_partOfLeastRow_112 ca, k_X3_partOfLeastRow_114 ca, k_X3_partOfLeastRow_115 ca, k_X3_partOfLeastRow_117 ca, k_X3_partOfLeastRow_118 ca, k_X3_partOfLeastRow_119 ca, k_X3_partOfLeastRow_121 ca, k_X3_partOfLeastRow_123 ca, k_X3_partOfLeastRow_124 ca, d36, n360, a_1]
      try clear hF hF0 F
      exact k0
  have k0 := key I 0 (some (.int 0)) (by omega)
  rw [hrow.1, hrow.2.1, nI_0] at k0
  have hT0 : (0 : Int) ≤ T := by omega
  have eT : zI T = nI T.toNat := by rw [zI_n]; exact congrArg zI (by omega)
  rw [eT] at k0
  refine goN go (stp [9]) 160 _ _ _ _ _ _ (fun F hF hF0 => ?_)
  simp only [hF, hF0, ite_not, i_push, i_iload, i_lload, i_aload, i_istore, i_astore, i_lstore, i_iinc, i_bin, i_dv, i_un, i_lbin, i_lsh, i_i2l, i_l2i, i_lcmp, i_dup, i_dup2, i_pop, i_if, i_icmp, i_goto, swG, i_sw, i_getf, i_puti, i_putz, i_putr, i_ald, i_lald, i_aald, i_ast, i_last, i_aast, i_alen, i_new, i_newi, i_newl, i_newq, i_oinit, i_ret, i_zret, i_lret, i_vret, catS, tk, rpush, isO, i_m1, i_m2, i_acopy, i_callV, i_callS, KRet, lget, lput, lputL, lcl0, isL, lv0, List.map_cons, List.map_nil, List.length_cons, List.length_nil, List.cons_append, List.nil_append, Nat.reduceAdd, Nat.reduceSub, Nat.reduceLeDiff, List.replicate_succ, List.replicate_zero, List.getElem?_cons_succ, List.getElem?_cons_zero, List.set_cons_succ, List.set_cons_zero, true_and, and_true, if_true, if_false, ↓reduceIte, Nat.le_refl, Value.category, va_up_app, eq_self, stp, Nat.reduceBEq, Bool.or_false, Bool.false_or, Bool.true_or, Bool.or_true, or_true, true_or, bx_uu, implies_true, true_implies, not_true, not_false_eq_true, false_implies, and_self, Nat.reduceLT, Int32.reduceAdd, Int32.reduceSub, Int32.reduceMul, Int32.reduceLE, Int32.reduceLT, Int32.reduceToNatClampNeg, va_rf_some, Bool.false_eq_true, k_X3_partOfLeastRow_0 ca, k_X3_partOfLeastRow_1 ca, k_X3_partOfLeastRow_3 ca, k_X3_partOfLeastRow_4 ca, k_X3_partOfLeastRow_5 ca, k_X3_partOfLeastRow_6 ca, k_X3_partOfLeastRow_9 ca, k_X3_partOfLeastRow_12 ca, k_X3_partOfLeastRow_14 ca, k_X3_partOfLeastRow_15 ca, k_X3_partOfLeastRow_17 ca, k_X3_partOfLeastRow_18 ca, k_X3_partOfLeastRow_20 ca, k_X3_partOfLeastRow_22 ca, k_X3_partOfLeastRow_23 ca, k_X3_partOfLeastRow_26 ca, k_X3_partOfLeastRow_27 ca, k_X3_partOfLeastRow_28 ca, k_X3_partOfLeastRow_30 ca, k_X3_partOfLeastRow_31 ca, k_X3_partOfLeastRow_33 ca, k_X3_partOfLeastRow_35 ca, k_X3_partOfLeastRow_38 ca, k_X3_partOfLeastRow_40 ca, k_X3_partOfLeastRow_42 ca, k_X3_partOfLeastRow_44 ca, k_X3_partOfLeastRow_46 ca, k_X3_partOfLeastRow_47 ca, k_X3_partOfLeastRow_48 ca, k_X3_partOfLeastRow_50 ca, k_X3_partOfLeastRow_52 ca, k_X3_partOfLeastRow_53 ca, k_X3_partOfLeastRow_56 ca, k_X3_partOfLeastRow_57 ca, k_X3_partOfLeastRow_58 ca, k_X3_partOfLeastRow_60 ca, k_X3_partOfLeastRow_62 ca, k_X3_partOfLeastRow_64 ca, k_X3_partOfLeastRow_66 ca, k_X3_partOfLeastRow_67 ca, k_X3_partOfLeastRow_68 ca, k_X3_partOfLeastRow_70 ca, k_X3_partOfLeastRow_73 ca, k_X3_partOfLeastRow_76 ca, k_X3_partOfLeastRow_78 ca, k_X3_partOfLeastRow_104 ca, k_X3_partOfLeastRow_106 ca, k_X3_partOfLeastRow_108 ca, k_X3_partOfLeastRow_109 ca, k_X3_partOfLeastRow_110 ca, k_X3_partOfLeastRow_112 ca, k_X3_partOfLeastRow_114 ca, k_X3_partOfLeastRow_115 ca, k_X3_partOfLeastRow_117 ca, k_X3_partOfLeastRow_118 ca, k_X3_partOfLeastRow_119 ca, k_X3_partOfLeastRow_121 ca, k_X3_partOfLeastRow_123 ca, k_X3_partOfLeastRow_124 ca, e0']
  try clear hF hF0 F
  refine ⟨x5, nx, tm, pp, pc, ox, tx, Nf, pr, P, b, hP, by omega, by omega, rfl, hF, fun L hL => ?_⟩
  have hbt : ∀ t : Nat, t < 32 → ((t : Int) = T ∨ (t : Int) < T) → bt L t = decide ((t : Int) = T) := fun t ht hlt => by
    by_cases z : (t : Int) = T
    · rw [decide_eq_true z]; exact (hL t ht).mpr (by rw [z]; exact hc)
    · rw [decide_eq_false z]
      cases q : bt L t with
      | false => rfl
      | true => exact absurd ((hL t ht).mp q) (hmin t (by omega))
  refine goN go (stp [12]) 160 _ _ _ _ _ _ (fun F hF hF0 => ?_)
  simp only [hF, hF0, ite_not, i_push, i_iload, i_lload, i_aload, i_istore, i_astore, i_lstore, i_iinc, i_bin, i_dv, i_un, i_lbin, i_lsh, i_i2l, i_l2i, i_lcmp, i_dup, i_dup2, i_pop, i_if, i_icmp, i_goto, swG, i_sw, i_getf, i_puti, i_putz, i_putr, i_ald, i_lald, i_aald, i_ast, i_last, i_aast, i_alen, i_new, i_newi, i_newl, i_newq, i_oinit, i_ret, i_zret, i_lret, i_vret, catS, tk, rpush, isO, i_m1, i_m2, i_acopy, i_callV, i_callS, KRet, lget, lput, lputL, lcl0, isL, lv0, List.map_cons, List.map_nil, List.length_cons, List.length_nil, List.cons_append, List.nil_append, Nat.reduceAdd, Nat.reduceSub, Nat.reduceLeDiff, List.replicate_succ, List.replicate_zero, List.getElem?_cons_succ, List.getElem?_cons_zero, List.set_cons_succ, List.set_cons_zero, true_and, and_true, if_true, if_false, ↓reduceIte, Nat.le_refl, Value.category, va_up_app, eq_self, stp, Nat.reduceBEq, Bool.or_false, Bool.false_or, Bool.true_or, Bool.or_true, or_true, true_or, bx_uu, implies_true, true_implies, not_true, not_false_eq_true, false_implies, and_self, Nat.reduceLT, Int32.reduceAdd, Int32.reduceSub, Int32.reduceMul, Int32.reduceLE, Int32.reduceLT, Int32.reduceToNatClampNeg, va_rf_some, Bool.false_eq_true, k_X3_partOfLeastRow_0 ca, k_X3_partOfLeastRow_1 ca, k_X3_partOfLeastRow_3 ca, k_X3_partOfLeastRow_4 ca, k_X3_partOfLeastRow_5 ca, k_X3_partOfLeastRow_6 ca, k_X3_partOfLeastRow_9 ca, k_X3_partOfLeastRow_12 ca, k_X3_partOfLeastRow_14 ca, k_X3_partOfLeastRow_15 ca, k_X3_partOfLeastRow_17 ca, k_X3_partOfLeastRow_18 ca, k_X3_partOfLeastRow_20 ca, k_X3_partOfLeastRow_22 ca, k_X3_partOfLeastRow_23 ca, k_X3_partOfLeastRow_26 ca, k_X3_partOfLeastRow_27 ca, k_X3_partOfLeastRow_28 ca, k_X3_partOfLeastRow_30 ca, k_X3_partOfLeastRow_31 ca, k_X3_partOfLeastRow_33 ca, k_X3_partOfLeastRow_35 ca, k_X3_partOfLeastRow_38 ca, k_X3_partOfLeastRow_40 ca, k_X3_partOfLeastRow_42 ca, k_X3_partOfLeastRow_44 ca, k_X3_partOfLeastRow_46 ca, k_X3_partOfLeastRow_47 ca, k_X3_partOfLeastRow_48 ca, k_X3_partOfLeastRow_50 ca, k_X3_partOfLeastRow_52 ca, k_X3_partOfLeastRow_53 ca, k_X3_partOfLeastRow_56 ca, k_X3_partOfLeastRow_57 ca, k_X3_partOfLeastRow_58 ca, k_X3_partOfLeastRow_60 ca, k_X3_partOfLeastRow_62 ca, k_X3_partOfLeastRow_64 ca, k_X3_partOfLeastRow_66 ca, k_X3_partOfLeastRow_67 ca, k_X3_partOfLeastRow_68 ca, k_X3_partOfLeastRow_70 ca, k_X3_partOfLeastRow_73 ca, k_X3_partOfLeastRow_76 ca, k_X3_partOfLeastRow_78 ca, k_X3_partOfLeastRow_104 ca, k_X3_partOfLeastRow_106 ca, k_X3_partOfLeastRow_108 ca, k_X3_partOfLeastRow_109 ca, k_X3_partOfLeastRow_110 ca, k_X3_partOfLeastRow_112 ca, k_X3_partOfLeastRow_114 ca, k_X3_partOfLeastRow_115 ca, k_X3_partOfLeastRow_117 ca, k_X3_partOfLeastRow_118 ca, k_X3_partOfLeastRow_119 ca, k_X3_partOfLeastRow_121 ca, k_X3_partOfLeastRow_123 ca, k_X3_partOfLeastRow_124 ca]
  try clear hF hF0 F
  refine ⟨L, T.toNat, rfl, by omega, fun t ht => ?_, ?_, ?_⟩
  · rw [hbt t (by omega) (by omega)]; exact decide_eq_false (by omega)
  · exact Or.inr (by rw [hbt T.toNat (by omega) (by omega)]; exact decide_eq_true (by omega))
  · refine goN go (stp [20]) 160 _ _ _ _ _ _ (fun F hF hF0 => ?_)
    simp only [hF, hF0, ite_not, i_push, i_iload, i_lload, i_aload, i_istore, i_astore, i_lstore, i_iinc, i_bin, i_dv, i_un, i_lbin, i_lsh, i_i2l, i_l2i, i_lcmp, i_dup, i_dup2, i_pop, i_if, i_icmp, i_goto, swG, i_sw, i_getf, i_puti, i_putz, i_putr, i_ald, i_lald, i_aald, i_ast, i_last, i_aast, i_alen, i_new, i_newi, i_newl, i_newq, i_oinit, i_ret, i_zret, i_lret, i_vret, catS, tk, rpush, isO, i_m1, i_m2, i_acopy, i_callV, i_callS, KRet, lget, lput, lputL, lcl0, isL, lv0, List.map_cons, List.map_nil, List.length_cons, List.length_nil, List.cons_append, List.nil_append, Nat.reduceAdd, Nat.reduceSub, Nat.reduceLeDiff, List.replicate_succ, List.replicate_zero, List.getElem?_cons_succ, List.getElem?_cons_zero, List.set_cons_succ, List.set_cons_zero, true_and, and_true, if_true, if_false, ↓reduceIte, Nat.le_refl, Value.category, va_up_app, eq_self, stp, Nat.reduceBEq, Bool.or_false, Bool.false_or, Bool.true_or, Bool.or_true, or_true, true_or, bx_uu, implies_true, true_implies, not_true, not_false_eq_true, false_implies, and_self, Nat.reduceLT, Int32.reduceAdd, Int32.reduceSub, Int32.reduceMul, Int32.reduceLE, Int32.reduceLT, Int32.reduceToNatClampNeg, va_rf_some, Bool.false_eq_true, k_X3_partOfLeastRow_0 ca, k_X3_partOfLeastRow_1 ca, k_X3_partOfLeastRow_3 ca, k_X3_partOfLeastRow_4 ca, k_X3_partOfLeastRow_5 ca, k_X3_partOfLeastRow_6 ca, k_X3_partOfLeastRow_9 ca, k_X3_partOfLeastRow_12 ca, k_X3_partOfLeastRow_14 ca, k_X3_partOfLeastRow_15 ca, k_X3_partOfLeastRow_17 ca, k_X3_partOfLeastRow_18 ca, k_X3_partOfLeastRow_20 ca, k_X3_partOfLeastRow_22 ca, k_X3_partOfLeastRow_23 ca, k_X3_partOfLeastRow_26 ca, k_X3_partOfLeastRow_27 ca, k_X3_partOfLeastRow_28 ca, k_X3_partOfLeastRow_30 ca, k_X3_partOfLeastRow_31 ca, k_X3_partOfLeastRow_33 ca, k_X3_partOfLeastRow_35 ca, k_X3_partOfLeastRow_38 ca, k_X3_partOfLeastRow_40 ca, k_X3_partOfLeastRow_42 ca, k_X3_partOfLeastRow_44 ca, k_X3_partOfLeastRow_46 ca, k_X3_partOfLeastRow_47 ca, k_X3_partOfLeastRow_48 ca, k_X3_partOfLeastRow_50 ca, k_X3_partOfLeastRow_52 ca, k_X3_partOfLeastRow_53 ca, k_X3_partOfLeastRow_56 ca, k_X3_partOfLeastRow_57 ca, k_X3_partOfLeastRow_58 ca, k_X3_partOfLeastRow_60 ca, k_X3_partOfLeastRow_62 ca, k_X3_partOfLeastRow_64 ca, k_X3_partOfLeastRow_66 ca, k_X3_partOfLeastRow_67 ca, k_X3_partOfLeastRow_68 ca, k_X3_partOfLeastRow_70 ca, k_X3_partOfLeastRow_73 ca, k_X3_partOfLeastRow_76 ca, k_X3_partOfLeastRow_78 ca, k_X3_partOfLeastRow_104 ca, k_X3_partOfLeastRow_106 ca, k_X3_partOfLeastRow_108 ca, k_X3_partOfLeastRow_109 ca, k_X3_partOfLeastRow_110 ca, k_X3_partOfLeastRow_112 ca, k_X3_partOfLeastRow_114 ca, k_X3_partOfLeastRow_115 ca, k_X3_partOfLeastRow_117 ca, k_X3_partOfLeastRow_118 ca, k_X3_partOfLeastRow_119 ca, k_X3_partOfLeastRow_121 ca, k_X3_partOfLeastRow_123 ca, k_X3_partOfLeastRow_124 ca]
    try clear hF hF0 F
    exact k0
