/-! a method's end; calls; the JDK's own -/
section SNC
variable {D : va_G} {ca : Nat → ClassId} {A : Nat → Prop} {nL : Nat} {p : Program} {l : Launch} {e : Env} {R : Room} {s : State} {m : MethodId} {args : Array Value} {below : List Frame} {meth : Method} {c : Code} {Q : State → Prop} {own nm : String} {cc : ByteArray} {ret : Option FieldType} {KR : RT} {pc mc ms : Nat} {post : Option Value → PH → Prop}
theorem qm_of {H : Heap} {locs : List Loc} {L : List Nat} {h : PH} {v : Option Value} {oc : Outcome} (ho : oc = .returned v) (hp : post v h) (a1 : Dm L h) (a2 : va_P D vwCl (va_pl L (hd h)) H) (a3 : va_D A (va_pl L (hd h))) (a4 : va_S A s.heap H locs) {t : State} (ht : t.heap = H) : QM D A post args s oc t :=
  ⟨⟨v, h, L, ho, hp, a1, by rw [ht]; exact a2, a3⟩, a4.F ht⟩
theorem snd_ret (X : Ax D ca A nL own nm cc (some .int) p s m args meth c) (hdg : decode cc pc = .ok (.ireturn, 1)) : Snd D A nL p l e R s m args below meth c (MQ below (QM D A post) args s mc ms A) (KRet mc ms post) i_ret pc := by
  intro K hK c1 sl lv st h hj H locs L ls a1 a2 a3 a4 a5
  unfold i_ret at hj
  split at hj
  · obtain ⟨g1, g2, g3⟩ := hj
    exact W.widen g1 g2 (W.iret X.1 X.2.1 X.2.2.2.2.1 (fun t ht _ => qm_of rfl g3 a1 a2 a3 a4 ht) a4.2.2 hdg X.2.2.2.2.2.1)
  · exact hj.elim
theorem snd_zret (X : Ax D ca A nL own nm cc (some .boolean) p s m args meth c) (hdg : decode cc pc = .ok (.ireturn, 1)) : Snd D A nL p l e R s m args below meth c (MQ below (QM D A post) args s mc ms A) (KRet mc ms post) i_zret pc := by
  intro K hK c1 sl lv st h hj H locs L ls a1 a2 a3 a4 a5
  unfold i_zret at hj
  split at hj
  · obtain ⟨hv, g1, g2, g3⟩ := hj
    exact W.widen g1 g2 (W.zret X.1 X.2.1 X.2.2.2.2.1 (by rcases hv with rfl | rfl <;> rfl) (fun t ht _ => qm_of rfl g3 a1 a2 a3 a4 ht) a4.2.2 hdg X.2.2.2.2.2.1)
  · exact hj.elim
theorem snd_lret (X : Ax D ca A nL own nm cc (some .long) p s m args meth c) (hdg : decode cc pc = .ok (.lreturn, 1)) : Snd D A nL p l e R s m args below meth c (MQ below (QM D A post) args s mc ms A) (KRet mc ms post) i_lret pc := by
  intro K hK c1 sl lv st h hj H locs L ls a1 a2 a3 a4 a5
  unfold i_lret at hj
  split at hj
  · obtain ⟨g1, g2, g3⟩ := hj
    exact W.widen g1 g2 (W.lret X.1 X.2.1 X.2.2.2.2.1 (fun t ht _ => qm_of rfl g3 a1 a2 a3 a4 ht) a4.2.2 hdg X.2.2.2.2.2.1)
  · exact hj.elim
theorem snd_vret (X : Ax D ca A nL own nm cc none p s m args meth c) (hdg : decode cc pc = .ok (.return_, 1)) : Snd D A nL p l e R s m args below meth c (MQ below (QM D A post) args s mc ms A) (KRet mc ms post) i_vret pc := by
  intro K hK c1 sl lv st h hj H locs L ls a1 a2 a3 a4 a5
  unfold i_vret at hj
  split at hj
  · obtain ⟨g1, g2, g3⟩ := hj
    exact W.widen g1 g2 (W.vret X.1 X.2.1 X.2.2.2.2.1 (fun t ht _ => qm_of rfl g3 a1 a2 a3 a4 ht) a4.2.2 hdg X.2.2.2.2.2.1)
  · exact hj.elim
theorem va_callM {A0 A1 : Nat → Prop} {H0 H : Heap} {locs : List Loc} {cells slots : Nat} {ls : Array Slot} {rest st0 : List Value} {a : Array Value} (hr : va_Run p l e R s m args below meth c H locs cells slots mc ms (F0 m pc ls st0) rest (QM D A1 post a) A1) (hS : va_S A0 H0 H locs) (hA : ∀ q, A1 q → A0 q)
    (kk : ∀ (v : Option Value) (h' : PH) (L' : List Nat) (H1 : Heap) (locs1 : List Loc), post v h' → Dm L' h' → va_P D vwCl (va_pl L' (hd h')) H1 → va_D A0 (va_pl L' (hd h')) → va_S A0 H0 H1 locs1 → W p l e R s m args below meth c H1 locs1 (cells + mc) (slots + ms) Q (F0 m (pc + 3) ls (rpush v rest))) : W p l e R s m args below meth c H locs cells slots Q (F0 m pc ls st0) := by
  intro T hT X
  obtain ⟨v, st₀, t, T', L, h0, X', hL, e1, e2, ⟨⟨v', h', L', hv, hp, hd1, hP, hD⟩, hz, hk⟩, st⟩ := hr T hT X
  cases hv
  rw [h0] at hz hk
  obtain ⟨t2, a1, b1⟩ := kk v h' L' T'.heap (locs ++ L) hp hd1 (by rw [e1]; exact hP) (hD.weaken (fun _ _ _ z => hA _ z))
    ⟨Nat.le_trans hS.1 (by rw [e1]; exact hz), fun q h1 h2 => by rw [e1, hk q (Nat.lt_of_lt_of_le h1 hS.1) (fun z => h2 (hA q z))]; exact hS.2.1 q h1 h2, fun q hq => by
      rcases List.mem_append.mp hq with h | h
      · exact hS.2.2 q h
      · exact hA _ (hL q h)⟩ T' rfl X'
  rw [← rpush_eq] at a1
  exact ⟨t2, st t2 a1, b1⟩
theorem pc_blind {av : List Value} {D : va_G} {h : PH} {L : List Nat} {sz : Nat} : FrameBlind (va_Pc av (fun U => U.heap.size = sz ∧ va_P D vwCl (va_pl L (hd h)) U.heap ∧ va_K D vwCl (tysOf ca) U ∧ NWs U ∧ va_D (fun _ => True) (va_pl L (hd h)))) := by
  intro a U g mk q
  obtain ⟨q0, q1, qP, qK, qN, qD⟩ := q
  exact ⟨q0, q1, qP, va_K.moved (u := U) (U := U.calling g mk a) (Vm.Alike.refl U.vm) qK, qN.same rfl, qD⟩
theorem pc_now (X : Ax D ca A nL own nm cc ret p s m args meth c) {av : List Value} {h : PH} {L : List Nat} {H : Heap} (a2 : va_P D vwCl (va_pl L (hd h)) H) (a3 : va_D A (va_pl L (hd h))) (U : State) (hU : U.heap = H) (hW : s.WarmedH U.vm) : va_Pc av (fun U => U.heap.size = H.size ∧ va_P D vwCl (va_pl L (hd h)) U.heap ∧ va_K D vwCl (tysOf ca) U ∧ NWs U ∧ va_D (fun _ => True) (va_pl L (hd h))) av.toArray U :=
  ⟨rfl, by rw [hU], by rw [hU]; exact a2, va_K.moved hW.alike X.2.2.2.2.2.2.2.2.1, X.2.2.2.2.2.2.2.2.2.1.warm hW, a3.weaken (fun _ _ _ _ => trivial)⟩
theorem free_in {H0 H : Heap} {locs : List Loc} {ws : va_W} (hA : ∀ q : Nat, H0.size ≤ q → A q) (a3 : va_D A ws) (a4 : va_S A H0 H locs) : ∀ q, va_A ws H.size q → A q := by
  intro q hq
  rcases hq with ⟨k, e, hk⟩ | hq
  · exact a3.2 k (q, e) hk
  · exact hA q (Nat.le_trans a4.1 hq)
theorem gin_wl {y : MethodName} {cc : ByteArray} {nL : Nat} {ret : Option FieldType} (h : Cond.code y cc nL ret ∈ lwg) : GoodIn lwg (wl y cc nL ret) := by
  intro w hw
  rcases List.mem_cons.mp hw with rfl | hw
  · exact ⟨h, good_of_word (lwg_ok h).2⟩
  · exact ⟨hw, good_of_word (lwg_ok hw).2⟩
theorem gin1 {w : Cond} (h : w ∈ lwg) : w ∈ lwg ∧ ((w.onTables && w.keeps) = true ∨ ∃ ty, w = .arrayClass ty) := ⟨h, good_of_word (lwg_ok h).2⟩
def OkAll (l : Launch) (D : va_G) (ca : Nat → ClassId) (y : MethodName) (cc : ByteArray) (nL : Nat) (ret : Option FieldType) (d mc ms : Nat) (sp : SPEC) : Prop := ∀ (av : List Value) (h : PH) (post : Option Value → PH → Prop), sp av h post → OkM l D ca y cc nL ret d mc ms av h post
theorem snd_callV (X : Ax D ca A nL own nm cc ret p s m args meth c) {ci n d' nL' mc' ms' MC MS index : Nat} {C : String} {T : u_T} {N : Nat} {ty : Nat → FieldType} (F : FC ci C T N ty) {y : MethodName} {cc' : ByteArray} {ret' : Option FieldType} {sp : SPEC} (hok : OkAll l D ca y cc' nL' ret' d' mc' ms' sp) (hMC : R.cells = MC) (hMS : R.slots = MS)
    (w1 : Cond.methodLink own index y ∈ lwg) (w2 : Cond.instanceMethod y ∈ lwg) (w3 : Cond.selects C y y ∈ lwg) (w4 : Cond.initialized C ∈ lwg) (w5 : Cond.code y cc' nL' ret' ∈ lwg) (hd : y.cls = C ∧ y.cls ≠ "java/lang/invoke/MethodHandle" ∧ y.cls ≠ "java/lang/invoke/VarHandle" ∧ (parseMethodDescriptor y.desc).map (fun d => d.parameters.length) = some n) (hR : d' + 1 ≤ R.frames ∧ 8 + (nL' + 11) + 37 * d' ≤ R.locals) (hdg : decode cc pc = .ok (.invokevirtual index, 3)) : Snd D A nL p l e R s m args below meth c Q KR (i_callV ci n mc' ms' MC MS sp (pc + 3)) pc := by
  intro K hK c1 sl lv st h hj H locs L ls a1 a2 a3 a4 a5
  subst hMC; subst hMS
  unfold i_callV at hj
  split at hj
  · rename_i av st' htk
    obtain ⟨hO, hcat, g1, g2, hsp⟩ := hj
    obtain ⟨l1, q1, q2, q3⟩ := tk_spec htk
    rw [List.append_nil] at q1
    subst q1
    match av, hO with
    | .ref b :: As, hO =>
      dsimp only [isO] at hO
      split at hO
      · rename_i c' fs hb
        subst hO
        obtain ⟨q, hq⟩ := pl_at a1 hb
        have hG : GoodIn lwg (wsV own index C y (wl y cc' nL' ret')) := by
          intro w hw
          unfold wsV at hw
          simp only [List.cons_append, List.nil_append, List.mem_cons] at hw
          rcases hw with rfl | rfl | rfl | rfl | hw
          · exact gin1 w1
          · exact gin1 w2
          · exact gin1 w3
          · exact gin1 w4
          · exact gin_wl w5 _ hw
        have hst : st = As.reverse ++ .ref b :: st' := by rw [q3]; simp
        have hlen : As.length = n := by simpa using q2
        refine va_callM (va_runV (As := As) (rest := st') ⟨X.1, X.2.1, X.2.2.1, X.2.2.2.1, X.2.2.2.2.2.2.2.1⟩ (hok _ _ _ hsp L H.size a1) (cwV n X.2.2.2.2.2.2.2.1 hG rfl rfl rfl hd hR) ⟨pc_blind, va_recv X.2.2.2.2.2.2.2.2.1 a2 F.1 hq, fun U hU hW => pc_now X a2 a3 U hU hW⟩ rfl hlen a5.1 hst (lv_room (by rw [catS_eq]; exact hcat)) hdg ⟨g1, g2⟩) a4 (free_in X.2.2.2.2.2.2.2.2.2.2 a3 a4) (fun v h' L' H1 locs1 r1 r2 r3 r4 r5 => ?_)
        exact hK _ _ _ _ _ _ r1 H1 locs1 L' ls r2 r3 r4 r5 a5
      · exact hO.elim
  · exact hj.elim
theorem snd_callS (X : Ax D ca A nL own nm cc ret p s m args meth c) {n d' nL' mc' ms' MC MS index : Nat} {y : MethodName} {cc' : ByteArray} {ret' : Option FieldType} {sp : SPEC} (hok : OkAll l D ca y cc' nL' ret' d' mc' ms' sp) (hMC : R.cells = MC) (hMS : R.slots = MS)
    (w1 : Cond.methodLink own index y ∈ lwg) (w2 : Cond.static y ∈ lwg) (w3 : Cond.initialized own ∈ lwg) (w5 : Cond.code y cc' nL' ret' ∈ lwg) (hd : y.cls = own ∧ y.cls ≠ "java/lang/invoke/MethodHandle" ∧ y.cls ≠ "java/lang/invoke/VarHandle" ∧ (parseMethodDescriptor y.desc).map (fun d => d.parameters.length) = some n) (hR : d' + 1 ≤ R.frames ∧ 8 + (nL' + 11) + 37 * d' ≤ R.locals) (hdg : decode cc pc = .ok (.invokestatic index, 3)) : Snd D A nL p l e R s m args below meth c Q KR (i_callS n mc' ms' MC MS sp (pc + 3)) pc := by
  intro K hK c1 sl lv st h hj H locs L ls a1 a2 a3 a4 a5
  subst hMC; subst hMS
  unfold i_callS at hj
  split at hj
  · rename_i av st' htk
    obtain ⟨hcat, g1, g2, hsp⟩ := hj
    obtain ⟨l1, q1, q2, q3⟩ := tk_spec htk
    rw [List.append_nil] at q1
    subst q1
    have hG : GoodIn lwg (wsS own index y (wl y cc' nL' ret')) := by
      intro w hw
      unfold wsS at hw
      simp only [List.cons_append, List.nil_append, List.mem_cons] at hw
      rcases hw with rfl | rfl | rfl | hw
      · exact gin1 w1
      · exact gin1 w2
      · exact gin1 w3
      · exact gin_wl w5 _ hw
    refine va_callM (va_runS (As := av) (rest := st') ⟨X.1, X.2.1, X.2.2.1, X.2.2.2.1, X.2.2.2.2.2.2.2.1⟩ (hok _ _ _ hsp L H.size a1) (cwS n X.2.2.2.2.2.2.2.1 hG rfl rfl rfl hd hR) ⟨pc_blind, fun U hU hW => pc_now X a2 a3 U hU hW⟩ rfl q2 a5.1 q3 (lv_room (by rw [catS_eq]; exact hcat)) hdg ⟨g1, g2⟩) a4 (free_in X.2.2.2.2.2.2.2.2.2.2 a3 a4) (fun v h' L' H1 locs1 r1 r2 r3 r4 r5 => ?_)
    exact hK _ _ _ _ _ _ r1 H1 locs1 L' ls r2 r3 r4 r5 a5
  · exact hj.elim
theorem snd_callJ (X : Ax D ca A nL own nm cc ret p s m args meth c) {n d' nL' mc' ms' MC MS index : Nat} {y : MethodName} {cc' : ByteArray} {ret' : Option FieldType} {sp : SPEC} (hok : OkAll l D ca y cc' nL' ret' d' mc' ms' sp) (hMC : R.cells = MC) (hMS : R.slots = MS)
    (w1 : Cond.methodLink own index y ∈ lwg) (w2 : Cond.static y ∈ lwg) (w3 : Cond.initialized y.cls ∈ lwg) (w5 : Cond.code y cc' nL' ret' ∈ lwg) (hd : y.cls ≠ "java/lang/invoke/MethodHandle" ∧ y.cls ≠ "java/lang/invoke/VarHandle" ∧ (parseMethodDescriptor y.desc).map (fun d => d.parameters.length) = some n) (hR : d' + 1 ≤ R.frames ∧ 8 + (nL' + 11) + 37 * d' ≤ R.locals) (hdg : decode cc pc = .ok (.invokestatic index, 3)) : Snd D A nL p l e R s m args below meth c Q KR (i_callS n mc' ms' MC MS sp (pc + 3)) pc := by
  intro K hK c1 sl lv st h hj H locs L ls a1 a2 a3 a4 a5
  subst hMC; subst hMS
  unfold i_callS at hj
  split at hj
  · rename_i av st' htk
    obtain ⟨hcat, g1, g2, hsp⟩ := hj
    obtain ⟨l1, q1, q2, q3⟩ := tk_spec htk
    rw [List.append_nil] at q1
    subst q1
    refine va_callM (va_runS (As := av) (rest := st') ⟨X.1, X.2.1, X.2.2.1, X.2.2.2.1, X.2.2.2.2.2.2.2.1⟩ (hok _ _ _ hsp L H.size a1) ⟨callB_of n X.2.2.2.2.2.2.2.1 (gin_wl w5) rfl rfl rfl (X.2.2.2.2.2.2.2.1 _ w3) (X.2.2.2.2.2.2.2.1 _ w1) hd hR, X.2.2.2.2.2.2.2.1 _ w2⟩ ⟨pc_blind, fun U hU hW => pc_now X a2 a3 U hU hW⟩ rfl q2 a5.1 q3 (lv_room (by rw [catS_eq]; exact hcat)) hdg ⟨g1, g2⟩) a4 (free_in X.2.2.2.2.2.2.2.2.2.2 a3 a4) (fun v h' L' H1 locs1 r1 r2 r3 r4 r5 => ?_)
    exact hK _ _ _ _ _ _ r1 H1 locs1 L' ls r2 r3 r4 r5 a5
  · exact hj.elim
theorem snd_callSN (X : Ax D ca A nL own nm cc ret p s m args meth c) {n d' nL' mc' ms' MC MS index : Nat} {y : MethodName} {host : String} {cc' : ByteArray} {ret' : Option FieldType} {sp : SPEC} (hok : OkAll l D ca y cc' nL' ret' d' mc' ms' sp) (hMC : R.cells = MC) (hMS : R.slots = MS)
    (w1 : NWs s → va_Nw (.methodLinkNest own index y host) s) (w2 : Cond.static y ∈ lwg) (w3 : Cond.initialized y.cls ∈ lwg) (w5 : Cond.code y cc' nL' ret' ∈ lwg) (hd : y.cls ≠ "java/lang/invoke/MethodHandle" ∧ y.cls ≠ "java/lang/invoke/VarHandle" ∧ (parseMethodDescriptor y.desc).map (fun d => d.parameters.length) = some n) (hR : d' + 1 ≤ R.frames ∧ 8 + (nL' + 11) + 37 * d' ≤ R.locals) (hdg : decode cc pc = .ok (.invokestatic index, 3)) : Snd D A nL p l e R s m args below meth c Q KR (i_callS n mc' ms' MC MS sp (pc + 3)) pc := by
  intro K hK c1 sl lv st h hj H locs L ls a1 a2 a3 a4 a5
  subst hMC; subst hMS
  unfold i_callS at hj
  split at hj
  · rename_i av st' htk
    obtain ⟨hcat, g1, g2, hsp⟩ := hj
    obtain ⟨l1, q1, q2, q3⟩ := tk_spec htk
    rw [List.append_nil] at q1
    subst q1
    refine va_callM (va_runSN (As := av) (rest := st') ⟨X.1, X.2.1, X.2.2.1, X.2.2.2.1, X.2.2.2.2.2.2.2.1⟩ (hok _ _ _ hsp L H.size a1) ⟨va_cnB n X.2.2.2.2.2.2.2.1 (gin_wl w5) rfl rfl rfl (w1 X.2.2.2.2.2.2.2.2.2.1) (X.2.2.2.2.2.2.2.1 _ w3) hd hR, X.2.2.2.2.2.2.2.1 _ w2, trivial⟩ ⟨pc_blind, fun U hU hW => pc_now X a2 a3 U hU hW⟩ rfl q2 a5.1 q3 (lv_room (by rw [catS_eq]; exact hcat)) hdg ⟨g1, g2⟩) a4 (free_in X.2.2.2.2.2.2.2.2.2.2 a3 a4) (fun v h' L' H1 locs1 r1 r2 r3 r4 r5 => ?_)
    exact hK _ _ _ _ _ _ r1 H1 locs1 L' ls r2 r3 r4 r5 a5
  · exact hj.elim
theorem snd_callI (X : Ax D ca A nL own nm cc ret p s m args meth c) {ci n d' nL' mc' ms' MC MS index : Nat} {y : MethodName} {cc' : ByteArray} {sp : SPEC} (hok : OkAll l D ca y cc' nL' none d' mc' ms' sp) (hMC : R.cells = MC) (hMS : R.slots = MS)
    (w1 : Cond.methodLink own index y ∈ lwg) (w2 : Cond.instanceMethod y ∈ lwg) (w4 : Cond.initialized y.cls ∈ lwg) (w5 : Cond.code y cc' nL' none ∈ lwg) (hy1 : y.name = "<init>") (hd : y.cls ≠ "java/lang/invoke/MethodHandle" ∧ y.cls ≠ "java/lang/invoke/VarHandle" ∧ (parseMethodDescriptor y.desc).map (fun d => d.parameters.length) = some n) (hR : d' + 1 ≤ R.frames ∧ 8 + (nL' + 11) + 37 * d' ≤ R.locals) (hdg : decode cc pc = .ok (.invokespecial index, 3)) : Snd D A nL p l e R s m args below meth c Q KR (i_callV ci n mc' ms' MC MS sp (pc + 3)) pc := by
  intro K hK c1 sl lv st h hj H locs L ls a1 a2 a3 a4 a5
  subst hMC; subst hMS
  unfold i_callV at hj
  split at hj
  · rename_i av st' htk
    obtain ⟨hO, hcat, g1, g2, hsp⟩ := hj
    obtain ⟨l1, q1, q2, q3⟩ := tk_spec htk
    rw [List.append_nil] at q1
    subst q1
    match av, hO with
    | .ref b :: As, hO =>
      have hst : st = As.reverse ++ .ref b :: st' := by rw [q3]; simp
      have hlen : As.length = n := by simpa using q2
      refine va_callM (va_runI (As := As) (rest := st') ⟨X.1, X.2.1, X.2.2.1, X.2.2.2.1, X.2.2.2.2.2.2.2.1⟩ (hok _ _ _ hsp L H.size a1) (cwI n X.2.2.2.2.2.2.2.1 (gin_wl w5) rfl rfl rfl (X.2.2.2.2.2.2.2.1 _ w4) (X.2.2.2.2.2.2.2.1 _ w1) (X.2.2.2.2.2.2.2.1 _ w2) hy1 hd hR) ⟨pc_blind, fun U hU hW => pc_now X a2 a3 U hU hW⟩ rfl hlen a5.1 hst (lv_room (by rw [catS_eq]; exact hcat)) hdg ⟨g1, g2⟩) a4 (free_in X.2.2.2.2.2.2.2.2.2.2 a3 a4) (fun v h' L' H1 locs1 r1 r2 r3 r4 r5 => ?_)
      exact hK _ _ _ _ _ _ r1 H1 locs1 L' ls r2 r3 r4 r5 a5
  · exact hj.elim
end SNC
