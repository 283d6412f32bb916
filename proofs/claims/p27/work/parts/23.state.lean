/-! what a Strip, a Room, a State hold; copies -/
def Ar (h : PH) (a : Nat) (cA : ClassId) (n : Nat) (g : Nat → Int32) : Prop := ∃ f, h a = some (.inl (cA, n, .inl f)) ∧ ∀ i, i < n → f i = g i
def Aq (h : PH) (a : Nat) (cA : ClassId) (n : Nat) (g : Nat → Nat) : Prop := ∃ f, h a = some (.inl (cA, n, .inr (.inr (.inr (.inr f))))) ∧ ∀ i, i < n → f i = some (g i)
def eStrip (l u w : Nat) (t : Nat → Int32) : va_E := .inr (5, [.ref l, .ref u, .ref w, .int (t 0), .int (t 1), .int (t 2), .int (t 3), .int (t 5), .int (t 6), .int (t 7), .int (t 4)])
def eRoom (r : Nat → Int32) : va_E := .inr (2, [.int (r 0), .int (r 1), .int (r 2), .int (r 3), .int (r 4), .int (r 5), .int (r 6)])
def TAt (ca : Nat → ClassId) (h : PH) (a l u w : Nat) (t : Nat → Int32) : Prop := h a = some (eStrip l u w t) ∧ Ar h l (ca 0) 8 (fun i => t (8 + 3 * i)) ∧ Ar h u (ca 0) 8 (fun i => t (9 + 3 * i)) ∧ Ar h w (ca 0) 8 (fun i => t (10 + 3 * i))
def eState (b : Nat → Nat) (s : Nat → Int32) : va_E := .inr (4, [.ref (b 1), .ref (b 2), .ref (b 3), .ref (b 4), .int (s 8), .int (s 9), .ref (b 5), .ref (b 6)])
def SAt (ca : Nat → ClassId) (h : PH) (b : Nat → Nat) (s : Nat → Int32) : Prop :=
  h (b 0) = some (eState b s) ∧ Ar h (b 1) (ca 0) 6 s ∧ Ar h (b 2) (ca 0) 2 (fun i => s (6 + i)) ∧ Aq h (b 3) (ca 6) 3 (fun k => b (7 + 5 * k)) ∧ Aq h (b 4) (ca 4) 3 (fun k => b (11 + 5 * k)) ∧ (∃ f, h (b 5) = some (.inl (ca 0, 3, .inl f))) ∧ (∃ f, h (b 6) = some (.inl (ca 0, 3, .inl f))) ∧
  TAt ca h (b 7) (b 8) (b 9) (b 10) (fun i => s (10 + i)) ∧ h (b 11) = some (eRoom (fun i => s (106 + i))) ∧
  TAt ca h (b 12) (b 13) (b 14) (b 15) (fun i => s (42 + i)) ∧ h (b 16) = some (eRoom (fun i => s (113 + i))) ∧
  TAt ca h (b 17) (b 18) (b 19) (b 20) (fun i => s (74 + i)) ∧ h (b 21) = some (eRoom (fun i => s (120 + i)))
def Inj (b : Nat → Nat) : Prop := ∀ i j : Nat, b i = b j ↔ i = j
def Dis (b c : Nat → Nat) : Prop := ∀ i j : Nat, i < 22 → j < 22 → (b i = c j ↔ False)
def Same (b : Nat → Nat) (h h' : PH) : Prop := ∀ x : Nat, (∀ i, i < 22 → ¬ x = b i) → h' x = h x
def sp_X5_copyFrom (ca : Nat → ClassId) : SPEC := fun av h post => match av with
  | [.ref a, .ref b] => (match h a with
    | some (.inr (5, [.ref l, .ref u, .ref w, .int _, .int _, .int _, .int _, .int _, .int _, .int _, .int _])) => (match h b with
      | some (.inr (5, [.ref l2, .ref u2, .ref w2, .int n, .int lo, .int hi, .int la, .int pu, .int sn, .int ki, .int si])) => (match h l with
        | some (.inl (c1, m1, .inl fl)) => (match h u with
          | some (.inl (c2, m2, .inl fu)) => (match h w with
            | some (.inl (c3, m3, .inl fw)) => (match h l2 with
              | some (.inl (c4, m4, .inl fl2)) => (match h u2 with
                | some (.inl (c5, m5, .inl fu2)) => (match h w2 with
                  | some (.inl (c6, m6, .inl fw2)) => c1 = ca 0 ∧ c2 = ca 0 ∧ c3 = ca 0 ∧ c4 = ca 0 ∧ c5 = ca 0 ∧ c6 = ca 0 ∧ m1 = 8 ∧ m2 = 8 ∧ m3 = 8 ∧ m4 = 8 ∧ m5 = 8 ∧ m6 = 8 ∧ (si = 0 ∨ si = 1) ∧ [a, b, l, u, w, l2, u2, w2].Nodup ∧
                    post none (va_up (va_up (va_up (va_up h l (some (.inl (ca 0, 8, .inl (va_cpy fl2 fl 0 0 8))))) u (some (.inl (ca 0, 8, .inl (va_cpy fu2 fu 0 0 8))))) w (some (.inl (ca 0, 8, .inl (va_cpy fw2 fw 0 0 8))))) a (some (.inr (5, [.ref l, .ref u, .ref w, .int n, .int lo, .int hi, .int la, .int pu, .int sn, .int ki, .int si]))))
                  | _ => False)
                | _ => False)
              | _ => False)
            | _ => False)
          | _ => False)
        | _ => False)
      | _ => False)
    | _ => False)
  | _ => False
theorem tn0 : (0 : Int32).toNatClampNeg = 0 := rfl
theorem tn8 : (8 : Int32).toNatClampNeg = 8 := rfl
def k_X5_copyFrom (ca : Nat → ClassId) : Nat → IT := fun pc => lk pc [(0, i_aload 1 1),
  (1, i_getf 5 0 4),
  (4, i_push (.int 0) 5),
  (5, i_aload 0 6),
  (6, i_getf 5 0 9),
  (9, i_push (.int 0) 10),
  (10, i_push (.int 8) 12),
  (12, i_acopy (ca 0) 15),
  (15, i_aload 1 16),
  (16, i_getf 5 1 19),
  (19, i_push (.int 0) 20),
  (20, i_aload 0 21),
  (21, i_getf 5 1 24),
  (24, i_push (.int 0) 25),
  (25, i_push (.int 8) 27),
  (27, i_acopy (ca 0) 30),
  (30, i_aload 1 31),
  (31, i_getf 5 2 34),
  (34, i_push (.int 0) 35),
  (35, i_aload 0 36),
  (36, i_getf 5 2 39),
  (39, i_push (.int 0) 40),
  (40, i_push (.int 8) 42),
  (42, i_acopy (ca 0) 45),
  (45, i_aload 0 46),
  (46, i_aload 1 47),
  (47, i_getf 5 3 50),
  (50, i_puti 5 3 53),
  (53, i_aload 0 54),
  (54, i_aload 1 55),
  (55, i_getf 5 4 58),
  (58, i_puti 5 4 61),
  (61, i_aload 0 62),
  (62, i_aload 1 63),
  (63, i_getf 5 5 66),
  (66, i_puti 5 5 69),
  (69, i_aload 0 70),
  (70, i_aload 1 71),
  (71, i_getf 5 6 74),
  (74, i_puti 5 6 77),
  (77, i_aload 0 78),
  (78, i_aload 1 79),
  (79, i_getf 5 7 82),
  (82, i_puti 5 7 85),
  (85, i_aload 0 86),
  (86, i_aload 1 87),
  (87, i_getf 5 8 90),
  (90, i_puti 5 8 93),
  (93, i_aload 0 94),
  (94, i_aload 1 95),
  (95, i_getf 5 9 98),
  (98, i_puti 5 9 101),
  (101, i_aload 0 102),
  (102, i_aload 1 103),
  (103, i_getf 5 10 106),
  (106, i_putz 5 10 109),
  (109, i_vret)]
set_option maxRecDepth 20000 in
theorem t_X5_copyFrom : Tb k_X5_copyFrom yX5_copyFrom cX5_copyFrom 2 none 1 0 0 := by
  intro l D ca A p e s m args below meth c post X
  unfold k_X5_copyFrom
  refine snd_cons (snd_aload_n X dX5_copyFrom_0 rfl) ?_
  refine snd_cons (snd_getf X Fk5 0 (by decide) w_35 dX5_copyFrom_1) ?_
  refine snd_cons (snd_iconst X dX5_copyFrom_4 (by decide)) ?_
  refine snd_cons (snd_aload_n X dX5_copyFrom_5 rfl) ?_
  refine snd_cons (snd_getf X Fk5 0 (by decide) w_35 dX5_copyFrom_6) ?_
  refine snd_cons (snd_iconst X dX5_copyFrom_9 (by decide)) ?_
  refine snd_cons (snd_bipush X dX5_copyFrom_10 (by decide)) ?_
  refine snd_cons (snd_acopy X w_305 w_300 w_299 w_10 (by decide) (by decide) dX5_copyFrom_12) ?_
  refine snd_cons (snd_aload_n X dX5_copyFrom_15 rfl) ?_
  refine snd_cons (snd_getf X Fk5 1 (by decide) w_37 dX5_copyFrom_16) ?_
  refine snd_cons (snd_iconst X dX5_copyFrom_19 (by decide)) ?_
  refine snd_cons (snd_aload_n X dX5_copyFrom_20 rfl) ?_
  refine snd_cons (snd_getf X Fk5 1 (by decide) w_37 dX5_copyFrom_21) ?_
  refine snd_cons (snd_iconst X dX5_copyFrom_24 (by decide)) ?_
  refine snd_cons (snd_bipush X dX5_copyFrom_25 (by decide)) ?_
  refine snd_cons (snd_acopy X w_305 w_300 w_299 w_10 (by decide) (by decide) dX5_copyFrom_27) ?_
  refine snd_cons (snd_aload_n X dX5_copyFrom_30 rfl) ?_
  refine snd_cons (snd_getf X Fk5 2 (by decide) w_39 dX5_copyFrom_31) ?_
  refine snd_cons (snd_iconst X dX5_copyFrom_34 (by decide)) ?_
  refine snd_cons (snd_aload_n X dX5_copyFrom_35 rfl) ?_
  refine snd_cons (snd_getf X Fk5 2 (by decide) w_39 dX5_copyFrom_36) ?_
  refine snd_cons (snd_iconst X dX5_copyFrom_39 (by decide)) ?_
  refine snd_cons (snd_bipush X dX5_copyFrom_40 (by decide)) ?_
  refine snd_cons (snd_acopy X w_305 w_300 w_299 w_10 (by decide) (by decide) dX5_copyFrom_42) ?_
  refine snd_cons (snd_aload_n X dX5_copyFrom_45 rfl) ?_
  refine snd_cons (snd_aload_n X dX5_copyFrom_46 rfl) ?_
  refine snd_cons (snd_getf X Fk5 3 (by decide) w_41 dX5_copyFrom_47) ?_
  refine snd_cons (snd_puti X Fk5 3 (by decide) rfl rfl w_41 dX5_copyFrom_50) ?_
  refine snd_cons (snd_aload_n X dX5_copyFrom_53 rfl) ?_
  refine snd_cons (snd_aload_n X dX5_copyFrom_54 rfl) ?_
  refine snd_cons (snd_getf X Fk5 4 (by decide) w_43 dX5_copyFrom_55) ?_
  refine snd_cons (snd_puti X Fk5 4 (by decide) rfl rfl w_43 dX5_copyFrom_58) ?_
  refine snd_cons (snd_aload_n X dX5_copyFrom_61 rfl) ?_
  refine snd_cons (snd_aload_n X dX5_copyFrom_62 rfl) ?_
  refine snd_cons (snd_getf X Fk5 5 (by decide) w_45 dX5_copyFrom_63) ?_
  refine snd_cons (snd_puti X Fk5 5 (by decide) rfl rfl w_45 dX5_copyFrom_66) ?_
  refine snd_cons (snd_aload_n X dX5_copyFrom_69 rfl) ?_
  refine snd_cons (snd_aload_n X dX5_copyFrom_70 rfl) ?_
  refine snd_cons (snd_getf X Fk5 6 (by decide) w_47 dX5_copyFrom_71) ?_
  refine snd_cons (snd_puti X Fk5 6 (by decide) rfl rfl w_47 dX5_copyFrom_74) ?_
  refine snd_cons (snd_aload_n X dX5_copyFrom_77 rfl) ?_
  refine snd_cons (snd_aload_n X dX5_copyFrom_78 rfl) ?_
  refine snd_cons (snd_getf X Fk5 7 (by decide) w_49 dX5_copyFrom_79) ?_
  refine snd_cons (snd_puti X Fk5 7 (by decide) rfl rfl w_49 dX5_copyFrom_82) ?_
  refine snd_cons (snd_aload_n X dX5_copyFrom_85 rfl) ?_
  refine snd_cons (snd_aload_n X dX5_copyFrom_86 rfl) ?_
  refine snd_cons (snd_getf X Fk5 8 (by decide) w_52 dX5_copyFrom_87) ?_
  refine snd_cons (snd_puti X Fk5 8 (by decide) rfl rfl w_52 dX5_copyFrom_90) ?_
  refine snd_cons (snd_aload_n X dX5_copyFrom_93 rfl) ?_
  refine snd_cons (snd_aload_n X dX5_copyFrom_94 rfl) ?_
  refine snd_cons (snd_getf X Fk5 9 (by decide) w_55 dX5_copyFrom_95) ?_
  refine snd_cons (snd_puti X Fk5 9 (by decide) rfl rfl w_55 dX5_copyFrom_98) ?_
  refine snd_cons (snd_aload_n X dX5_copyFrom_101 rfl) ?_
  refine snd_cons (snd_aload_n X dX5_copyFrom_102 rfl) ?_
  refine snd_cons (snd_getf X Fk5 10 (by decide) w_57 dX5_copyFrom_103) ?_
  refine snd_cons (snd_putz X Fk5 10 (by decide) rfl rfl w_57 dX5_copyFrom_106) ?_
  refine snd_cons (snd_vret X dX5_copyFrom_109) ?_
  exact snd_nil
theorem k_X5_copyFrom_0 (ca : Nat → ClassId) : k_X5_copyFrom ca 0 = i_aload 1 1 := rfl
theorem k_X5_copyFrom_1 (ca : Nat → ClassId) : k_X5_copyFrom ca 1 = i_getf 5 0 4 := rfl
theorem k_X5_copyFrom_4 (ca : Nat → ClassId) : k_X5_copyFrom ca 4 = i_push (.int 0) 5 := rfl
theorem k_X5_copyFrom_5 (ca : Nat → ClassId) : k_X5_copyFrom ca 5 = i_aload 0 6 := rfl
theorem k_X5_copyFrom_6 (ca : Nat → ClassId) : k_X5_copyFrom ca 6 = i_getf 5 0 9 := rfl
theorem k_X5_copyFrom_9 (ca : Nat → ClassId) : k_X5_copyFrom ca 9 = i_push (.int 0) 10 := rfl
theorem k_X5_copyFrom_10 (ca : Nat → ClassId) : k_X5_copyFrom ca 10 = i_push (.int 8) 12 := rfl
theorem k_X5_copyFrom_12 (ca : Nat → ClassId) : k_X5_copyFrom ca 12 = i_acopy (ca 0) 15 := rfl
theorem k_X5_copyFrom_15 (ca : Nat → ClassId) : k_X5_copyFrom ca 15 = i_aload 1 16 := rfl
theorem k_X5_copyFrom_16 (ca : Nat → ClassId) : k_X5_copyFrom ca 16 = i_getf 5 1 19 := rfl
theorem k_X5_copyFrom_19 (ca : Nat → ClassId) : k_X5_copyFrom ca 19 = i_push (.int 0) 20 := rfl
theorem k_X5_copyFrom_20 (ca : Nat → ClassId) : k_X5_copyFrom ca 20 = i_aload 0 21 := rfl
theorem k_X5_copyFrom_21 (ca : Nat → ClassId) : k_X5_copyFrom ca 21 = i_getf 5 1 24 := rfl
theorem k_X5_copyFrom_24 (ca : Nat → ClassId) : k_X5_copyFrom ca 24 = i_push (.int 0) 25 := rfl
theorem k_X5_copyFrom_25 (ca : Nat → ClassId) : k_X5_copyFrom ca 25 = i_push (.int 8) 27 := rfl
theorem k_X5_copyFrom_27 (ca : Nat → ClassId) : k_X5_copyFrom ca 27 = i_acopy (ca 0) 30 := rfl
theorem k_X5_copyFrom_30 (ca : Nat → ClassId) : k_X5_copyFrom ca 30 = i_aload 1 31 := rfl
theorem k_X5_copyFrom_31 (ca : Nat → ClassId) : k_X5_copyFrom ca 31 = i_getf 5 2 34 := rfl
theorem k_X5_copyFrom_34 (ca : Nat → ClassId) : k_X5_copyFrom ca 34 = i_push (.int 0) 35 := rfl
theorem k_X5_copyFrom_35 (ca : Nat → ClassId) : k_X5_copyFrom ca 35 = i_aload 0 36 := rfl
theorem k_X5_copyFrom_36 (ca : Nat → ClassId) : k_X5_copyFrom ca 36 = i_getf 5 2 39 := rfl
theorem k_X5_copyFrom_39 (ca : Nat → ClassId) : k_X5_copyFrom ca 39 = i_push (.int 0) 40 := rfl
theorem k_X5_copyFrom_40 (ca : Nat → ClassId) : k_X5_copyFrom ca 40 = i_push (.int 8) 42 := rfl
theorem k_X5_copyFrom_42 (ca : Nat → ClassId) : k_X5_copyFrom ca 42 = i_acopy (ca 0) 45 := rfl
theorem k_X5_copyFrom_45 (ca : Nat → ClassId) : k_X5_copyFrom ca 45 = i_aload 0 46 := rfl
theorem k_X5_copyFrom_46 (ca : Nat → ClassId) : k_X5_copyFrom ca 46 = i_aload 1 47 := rfl
theorem k_X5_copyFrom_47 (ca : Nat → ClassId) : k_X5_copyFrom ca 47 = i_getf 5 3 50 := rfl
theorem k_X5_copyFrom_50 (ca : Nat → ClassId) : k_X5_copyFrom ca 50 = i_puti 5 3 53 := rfl
theorem k_X5_copyFrom_53 (ca : Nat → ClassId) : k_X5_copyFrom ca 53 = i_aload 0 54 := rfl
theorem k_X5_copyFrom_54 (ca : Nat → ClassId) : k_X5_copyFrom ca 54 = i_aload 1 55 := rfl
theorem k_X5_copyFrom_55 (ca : Nat → ClassId) : k_X5_copyFrom ca 55 = i_getf 5 4 58 := rfl
theorem k_X5_copyFrom_58 (ca : Nat → ClassId) : k_X5_copyFrom ca 58 = i_puti 5 4 61 := rfl
theorem k_X5_copyFrom_61 (ca : Nat → ClassId) : k_X5_copyFrom ca 61 = i_aload 0 62 := rfl
theorem k_X5_copyFrom_62 (ca : Nat → ClassId) : k_X5_copyFrom ca 62 = i_aload 1 63 := rfl
theorem k_X5_copyFrom_63 (ca : Nat → ClassId) : k_X5_copyFrom ca 63 = i_getf 5 5 66 := rfl
theorem k_X5_copyFrom_66 (ca : Nat → ClassId) : k_X5_copyFrom ca 66 = i_puti 5 5 69 := rfl
theorem k_X5_copyFrom_69 (ca : Nat → ClassId) : k_X5_copyFrom ca 69 = i_aload 0 70 := rfl
theorem k_X5_copyFrom_70 (ca : Nat → ClassId) : k_X5_copyFrom ca 70 = i_aload 1 71 := rfl
theorem k_X5_copyFrom_71 (ca : Nat → ClassId) : k_X5_copyFrom ca 71 = i_getf 5 6 74 := rfl
theorem k_X5_copyFrom_74 (ca : Nat → ClassId) : k_X5_copyFrom ca 74 = i_puti 5 6 77 := rfl
theorem k_X5_copyFrom_77 (ca : Nat → ClassId) : k_X5_copyFrom ca 77 = i_aload 0 78 := rfl
theorem k_X5_copyFrom_78 (ca : Nat → ClassId) : k_X5_copyFrom ca 78 = i_aload 1 79 := rfl
theorem k_X5_copyFrom_79 (ca : Nat → ClassId) : k_X5_copyFrom ca 79 = i_getf 5 7 82 := rfl
theorem k_X5_copyFrom_82 (ca : Nat → ClassId) : k_X5_copyFrom ca 82 = i_puti 5 7 85 := rfl
theorem k_X5_copyFrom_85 (ca : Nat → ClassId) : k_X5_copyFrom ca 85 = i_aload 0 86 := rfl
theorem k_X5_copyFrom_86 (ca : Nat → ClassId) : k_X5_copyFrom ca 86 = i_aload 1 87 := rfl
theorem k_X5_copyFrom_87 (ca : Nat → ClassId) : k_X5_copyFrom ca 87 = i_getf 5 8 90 := rfl
theorem k_X5_copyFrom_90 (ca : Nat → ClassId) : k_X5_copyFrom ca 90 = i_puti 5 8 93 := rfl
theorem k_X5_copyFrom_93 (ca : Nat → ClassId) : k_X5_copyFrom ca 93 = i_aload 0 94 := rfl
theorem k_X5_copyFrom_94 (ca : Nat → ClassId) : k_X5_copyFrom ca 94 = i_aload 1 95 := rfl
theorem k_X5_copyFrom_95 (ca : Nat → ClassId) : k_X5_copyFrom ca 95 = i_getf 5 9 98 := rfl
theorem k_X5_copyFrom_98 (ca : Nat → ClassId) : k_X5_copyFrom ca 98 = i_puti 5 9 101 := rfl
theorem k_X5_copyFrom_101 (ca : Nat → ClassId) : k_X5_copyFrom ca 101 = i_aload 0 102 := rfl
theorem k_X5_copyFrom_102 (ca : Nat → ClassId) : k_X5_copyFrom ca 102 = i_aload 1 103 := rfl
theorem k_X5_copyFrom_103 (ca : Nat → ClassId) : k_X5_copyFrom ca 103 = i_getf 5 10 106 := rfl
theorem k_X5_copyFrom_106 (ca : Nat → ClassId) : k_X5_copyFrom ca 106 = i_putz 5 10 109 := rfl
theorem k_X5_copyFrom_109 (ca : Nat → ClassId) : k_X5_copyFrom ca 109 = i_vret := rfl
set_option maxHeartbeats 4000000 in
set_option maxRecDepth 20000 in
theorem ok_X5_copyFrom (l : Launch) (D : va_G) (ca : Nat → ClassId) : OkAll l D ca yX5_copyFrom cX5_copyFrom 2 none 1 0 0 (sp_X5_copyFrom ca) := by
  intro av h post hs
  unfold sp_X5_copyFrom at hs
  split at hs
  · split at hs
    · rename_i a b _ l u w _ _ _ _ _ _ _ _ ha
      split at hs
      · rename_i l2 u2 w2 n lo hi la pu sn ki si hb
        split at hs
        · rename_i h1
          split at hs
          · rename_i h2
            split at hs
            · rename_i h3
              split at hs
              · rename_i h4
                split at hs
                · rename_i h5
                  split at hs
                  · rename_i h6
                    obtain ⟨rfl, e2, e3, e4, e5, e6, rfl, rfl, rfl, rfl, rfl, rfl, hsi, hnd, hs⟩ := hs
                    subst e2; subst e3; subst e4; subst e5; subst e6
                    simp only [List.nodup_cons, List.mem_cons, List.not_mem_nil, not_or, or_false, not_false_eq_true, List.nodup_nil, and_true] at hnd
                    obtain ⟨⟨d1, d2, d3, d4, d5, d6, d7⟩, ⟨d8, d9, d10, d11, d12, d13⟩, ⟨d14, d15, d16, d17, d18⟩, ⟨d19, d20, d21, d22⟩, ⟨d23, d24, d25⟩, ⟨d26, d27⟩, d28⟩ := hnd
                    have g1 := Ne.symm d1
                    have g2 := Ne.symm d2
                    have g3 := Ne.symm d3
                    have g4 := Ne.symm d4
                    have g8 := Ne.symm d8
                    have g9 := Ne.symm d9
                    have g10 := Ne.symm d10
                    have g14 := Ne.symm d14
                    have g15 := Ne.symm d15
                    have g17 := Ne.symm d17
                    have g18 := Ne.symm d18
                    have g16 := Ne.symm d16
                    have g19 := Ne.symm d19
                    have g20 := Ne.symm d20
                    have g21 := Ne.symm d21
                    have g22 := Ne.symm d22
                    have g23 := Ne.symm d23
                    have g24 := Ne.symm d24
                    have g25 := Ne.symm d25
                    refine okM_of t_X5_copyFrom (by decide +kernel) (c1_ref (c1_ref c1_nil)) (Nat.le_of_ble_eq_true rfl) ?_
                    intro K go
                    refine go (stp []) 80 _ _ _ _ _ _ ?_
                    simp only [wpS, ite_not, i_push, i_iload, i_lload, i_aload, i_istore, i_astore, i_lstore, i_iinc, i_bin, i_dv, i_un, i_lbin, i_lsh, i_i2l, i_l2i, i_lcmp, i_dup, i_dup2, i_pop, i_if, i_icmp, i_goto, swG, i_sw, i_getf, i_puti, i_putz, i_putr, i_ald, i_lald, i_aald, i_ast, i_last, i_aast, i_alen, i_new, i_newi, i_newl, i_newq, i_oinit, i_ret, i_zret, i_lret, i_vret, catS, tk, rpush, isO, i_m1, i_m2, i_acopy, i_callV, i_callS, KRet, lget, lput, lputL, lcl0, isL, lv0, List.map_cons, List.map_nil, List.length_cons, List.length_nil, List.cons_append, List.nil_append, Nat.reduceAdd, Nat.reduceSub, Nat.reduceLeDiff, List.replicate_succ, List.replicate_zero, List.getElem?_cons_succ, List.getElem?_cons_zero, List.set_cons_succ, List.set_cons_zero, true_and, and_true, if_true, if_false, reduceIte, Nat.le_refl, Value.category, va_up_app, eq_self, stp, Nat.reduceBEq, Bool.or_false, Bool.false_or, Bool.true_or, Bool.or_true, or_true, true_or, bx_uu, implies_true, true_implies, not_true, not_false_eq_true, false_implies, and_self, Nat.reduceLT, Int32.reduceAdd, Int32.reduceSub, Int32.reduceMul, Int32.reduceLE, Int32.reduceLT, Int32.reduceToNatClampNeg, va_rf_some, Bool.false_eq_true, k_X5_copyFrom_0 ca, k_X5_copyFrom_1 ca, k_X5_copyFrom_4 ca, k_X5_copyFrom_5 ca, k_X5_copyFrom_6 ca, k_X5_copyFrom_9 ca, k_X5_copyFrom_10 ca, k_X5_copyFrom_12 ca, k_X5_copyFrom_15 ca, k_X5_copyFrom_16 ca, k_X5_copyFrom_19 ca, k_X5_copyFrom_20 ca, k_X5_copyFrom_21 ca, k_X5_copyFrom_24 ca, k_X5_copyFrom_25 ca, k_X5_copyFrom_27 ca, k_X5_copyFrom_30 ca, k_X5_copyFrom_31 ca, k_X5_copyFrom_34 ca, k_X5_copyFrom_35 ca, k_X5_copyFrom_36 ca, k_X5_copyFrom_39 ca, k_X5_copyFrom_40 ca, k_X5_copyFrom_42 ca, k_X5_copyFrom_45 ca, k_X5_copyFrom_46 ca, k_X5_copyFrom_47 ca, k_X5_copyFrom_50 ca, k_X5_copyFrom_53 ca, k_X5_copyFrom_54 ca, k_X5_copyFrom_55 ca, k_X5_copyFrom_58 ca, k_X5_copyFrom_61 ca, k_X5_copyFrom_62 ca, k_X5_copyFrom_63 ca, k_X5_copyFrom_66 ca, k_X5_copyFrom_69 ca, k_X5_copyFrom_70 ca, k_X5_copyFrom_71 ca, k_X5_copyFrom_74 ca, k_X5_copyFrom_77 ca, k_X5_copyFrom_78 ca, k_X5_copyFrom_79 ca, k_X5_copyFrom_82 ca, k_X5_copyFrom_85 ca, k_X5_copyFrom_86 ca, k_X5_copyFrom_87 ca, k_X5_copyFrom_90 ca, k_X5_copyFrom_93 ca, k_X5_copyFrom_94 ca, k_X5_copyFrom_95 ca, k_X5_copyFrom_98 ca, k_X5_copyFrom_101 ca, k_X5_copyFrom_102 ca, k_X5_copyFrom_103 ca, k_X5_copyFrom_106 ca, k_X5_copyFrom_109 ca, ha, hb, h1, h2, h3, h4, h5, h6, d1, d2, d3, d4, d8, d9, d10, d14, d15, d19, g1, g2, g3, g4, g8, g9, g10, g14, g15, g16, g17, g18, g19, g20, g21, g22, g23, g24, g25, hsi, tn0, tn8, Int32.lt_irrefl]
                    exact hs
                  · exact hs.elim
                · exact hs.elim
              · exact hs.elim
            · exact hs.elim
          · exact hs.elim
        · exact hs.elim
      · exact hs.elim
    · exact hs.elim
  · exact hs.elim

