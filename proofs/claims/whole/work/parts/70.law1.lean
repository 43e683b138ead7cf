/-! the law's point: the class, the answer's cell, the model side by side; its calls -/
def LPt (D : va_G) (tys : List (ClassId × FieldType)) (cJ : ClassId) (ad1 : Nat → Nat) (N1 : Nat) (ad2 : Nat → Nat) (A : Nat → Prop) (s : State) (E1 E2 : Nat → va_E) (o : Nat) (f : Nat → Int64) (H : Heap) (locs : List Loc) : Prop :=
  va_K D vcl tys s ∧ va_K D vcl [(cJ, .long)] s ∧ va_P D vcl (oW ad1 E1 N1 o cJ f ++ rlw ad2 E2 12) H ∧ va_D A (oW ad1 E1 N1 o cJ f ++ rlw ad2 E2 12) ∧ va_S A s.heap H locs ∧ (∀ q, s.heap.size ≤ q → A q) ∧ ENC A s s.heap
section LPS
variable {p : Program} {l : Launch} {e : Env} {R : Room} {s : State} {m : MethodId} {args : Array Value} {below : List Frame} {meth : Method} {c : Code} {H : Heap} {locs : List Loc} {cells slots : Nat} {Q : State → Prop}
variable {cc : ByteArray} {pc nL : Nat} {ls : Array Slot} {rest : List Value} {D : va_G} {A : Nat → Prop} {tys : List (ClassId × FieldType)} {ad1 ad2 : Nat → Nat} {N1 o : Nat} {cJ : ClassId} {f f' : Nat → Int64} {E1 E1' E2 E2' : Nat → va_E} {own : String}
theorem LPt.wo (h : LPt D tys cJ ad1 N1 ad2 A s E1 E2 o f H locs) : WO D tys cJ ad1 N1 A s E1 o f H locs := ⟨h.1, h.2.1, pre_P h.2.2.1, pre_D h.2.2.2.1, h.2.2.2.2.1, h.2.2.2.2.2.1, h.2.2.2.2.2.2⟩
theorem LPt.wm (h : LPt D tys cJ ad1 N1 ad2 A s E1 E2 o f H locs) : WB D tys EN0 ad2 12 A s E2 H locs := ⟨h.1, suf_P h.2.2.1, suf_D h.2.2.2.1, h.2.2.2.2.1, h.2.2.2.2.2.1, trivial⟩
theorem lp_in {w : va_W} (hD : va_D A w) (hS : va_S A s.heap H locs) (hA : ∀ q, s.heap.size ≤ q → A q) {q : Nat} (h : va_A w H.size q) : A q := by
  rcases h with ⟨k, e9, hk⟩ | h
  · exact hD.2 k _ hk
  · exact hA q (Nat.le_trans hS.1 h)
theorem lp_S {w : va_W} (hD : va_D A w) (hS : va_S A s.heap H locs) (hA : ∀ q, s.heap.size ≤ q → A q) {H1 : Heap} {L : List Loc} (hz : H.size ≤ H1.size) (hk : ∀ q : Nat, q < H.size → ¬ va_A w H.size q → H1[q]? = H[q]?) (hL : ∀ q ∈ L, va_A w H.size q.base) : va_S A s.heap H1 (locs ++ L) :=
  ⟨Nat.le_trans hS.1 hz, fun q h1 h2 => (hk q (Nat.lt_of_lt_of_le h1 hS.1) (fun z => h2 (lp_in hD hS hA z))).trans (hS.2.1 q h1 h2), fun q hq => by
    rcases List.mem_append.mp hq with h | h
    · exact hS.2.2 q h
    · exact lp_in hD hS hA (hL q h)⟩
theorem lp_pre (wo : WO D tys cJ ad1 N1 A s E1 o f H locs) (av : List Value) :
    FrameBlind (va_Pc av (fun U => U.heap.size = H.size ∧ va_P D vcl (oW ad1 E1 N1 o cJ f) U.heap ∧ va_K D vcl tys U ∧ va_K D vcl [(cJ, .long)] U ∧ va_D (fun _ => True) (oW ad1 E1 N1 o cJ f) ∧ ENC (va_A (oW ad1 E1 N1 o cJ f) H.size) U U.heap)) ∧
    ∀ U : State, U.heap = H → s.WarmedH U.vm → va_Pc av (fun U => U.heap.size = H.size ∧ va_P D vcl (oW ad1 E1 N1 o cJ f) U.heap ∧ va_K D vcl tys U ∧ va_K D vcl [(cJ, .long)] U ∧ va_D (fun _ => True) (oW ad1 E1 N1 o cJ f) ∧ ENC (va_A (oW ad1 E1 N1 o cJ f) H.size) U U.heap) av.toArray U := by
  obtain ⟨hK, hKJ, hP, hD, hS, hA, hEN⟩ := wo
  refine ⟨fun a U g mk q => ?_, fun U hU hW => ?_⟩
  · obtain ⟨q0, q1, qP, qK, qJ, qD, qE⟩ := q
    exact ⟨q0, q1, qP, va_K.moved (u := U) (U := U.calling g mk a) (Vm.Alike.refl U.vm) qK, va_K.moved (u := U) (U := U.calling g mk a) (Vm.Alike.refl U.vm) qJ, qD, ENC_ok.1 _ U (U.calling g mk a) _ (State.WarmedH.refl U) qE⟩
  · refine ⟨rfl, by rw [hU], by rw [hU]; exact hP, va_K.moved hW.alike hK, va_K.moved hW.alike hKJ, hD.weaken (fun _ _ _ _ => trivial), ?_⟩
    rw [hU]
    exact ENC_ok.1 _ s U _ hW (ENC_ok.2.2 A _ s H (ENC_ok.2.1 A s s.heap H hEN hS.2.1) (fun q h => lp_in hD hS hA h))
/-- a call of a wrapper -/
theorem lp_callL (S : CallFix p m c cc nL s args bw own) (lp : LPt D tys cJ ad1 N1 ad2 A s E1 E2 o f H locs) {y : MethodName} {cc2 : ByteArray} {nL2 : Nat} {hh : List (Nat × Nat × Nat × Nat)} {As : List Value} {k : Int32} {index na : Nat}
    (hM : RLc l y cc2 nL2 hh D tys cJ As ad1 N1 E1 E1' o f f' k) (hwd : ∀ w ∈ ([.methodLink own index y, .static y, .initialized y.cls, .codeWith y cc2 nL2 (some .int) hh] : List Cond), w ∈ bw)
    (hd : y.cls = y.cls ∧ y.cls ≠ "java/lang/invoke/MethodHandle" ∧ y.cls ≠ "java/lang/invoke/VarHandle" ∧ (parseMethodDescriptor y.desc).map (fun d => d.parameters.length) = some na) (hna : As.length = na)
    (hR : 10 + 1 ≤ R.frames ∧ 8 + (nL2 + 11) + 360 ≤ R.locals) (hsize : ls.size = nL) (hroom : (rest.map fun v => v.category).sum ≤ 8) (hcs : cells + 1 ≤ R.cells ∧ slots + 6 ≤ R.slots) {st0 : List Value} (hst : st0 = As.reverse ++ rest) (hdg : decode cc pc = .ok (.invokestatic index, 3))
    (kk : ∀ (H1 : Heap) (locs1 : List Loc), LPt D tys cJ ad1 N1 ad2 A s E1' E2 o f' H1 locs1 → W p l e R s m args below meth c H1 locs1 (cells + 1) (slots + 6) Q (F0 m (pc + 3) ls (.int k :: rest))) : W p l e R s m args below meth c H locs cells slots Q (F0 m pc ls st0) := by
  subst hst; subst hna
  have hr := vx_runSW (As := As) (rest := rest) (n := As.length) (bytes := cc2) (maxL := nL2) (ret := some .int) (hh := hh) (index := index) (g := F0 m pc ls (As.reverse ++ rest)) (locs := locs) (below := below) (p := p) (l := l) (e := e) (R := R) (meth := meth) (cells := cells) (slots := slots) S (hM H.size) (vx_cwSW As.length S.2.2.2.2 (bw_GI (fun _ h => h) (fun w hw => by
    unfold va_wsS at hw
    rcases List.mem_append.mp hw with h | h
    · exact hwd w (by simp only [List.mem_cons, List.not_mem_nil, or_false] at h ⊢; rcases h with h | h | h <;> simp [h])
    · rcases List.mem_cons.mp h with h | h
      · exact hwd w (by rw [h]; simp)
      · exact h)) rfl rfl rfl hd.2 hR) (lp_pre lp.wo _) rfl rfl hsize rfl (lv_room hroom) hdg hcs
  intro T hT X
  obtain ⟨v, st₀, t, T', L, h0, X', hL, e1, e2, ⟨hv, hP1, hz, hk⟩, st⟩ := hr T hT X
  cases hv
  rw [h0] at hz hk
  obtain ⟨hK, hKJ, hP, hD, hS, hA, hEN⟩ := lp
  have hk' : ∀ q : Nat, q < H.size → ¬ va_A (oW ad1 E1 N1 o cJ f) H.size q → T'.heap[q]? = H[q]? := fun q h1 h2 => by rw [e1]; exact hk q h1 h2
  obtain ⟨j1, j2⟩ := join_pre hP hD (oW_adr (E' := E1') (f' := f')) hk' (by rw [e1]; exact hP1)
  obtain ⟨t2, a1, b1⟩ := kk T'.heap (locs ++ L) ⟨hK, hKJ, j1, j2, lp_S (pre_D hD) hS hA (by rw [e1]; exact hz) hk' hL, hA, hEN⟩ T' rfl X'
  exact ⟨t2, st t2 a1, b1⟩
/-- a call of the model -/
theorem lp_callM (S : CallFix p m c cc nL s args bw own) (lp : LPt D tys cJ ad1 N1 ad2 A s E1 E2 o f H locs) {y : MethodName} {cc2 : ByteArray} {nL2 : Nat} {ret2 : Option FieldType} {rm2 : Room} {b : Nat} {As : List Value} {r : Option Value} {index na : Nat}
    (hM : RM l y cc2 nL2 ret2 rm2 D tys EN0 (.ref b :: As) ad2 12 E2 E2' r) (hwd : ∀ w ∈ ([.methodLink own index y, .instanceMethod y, .selects y.cls y y, .initialized y.cls, .code y cc2 nL2 ret2] : List Cond), w ∈ bw)
    (hrecv : ∃ cell : Cell, H[b]? = some cell ∧ cell.vm.isStatics = false ∧ s.vm.findClass y.cls = some cell.cls) (hd : y.cls = y.cls ∧ y.cls ≠ "java/lang/invoke/MethodHandle" ∧ y.cls ≠ "java/lang/invoke/VarHandle" ∧ (parseMethodDescriptor y.desc).map (fun d => d.parameters.length) = some na) (hna : As.length = na)
    (hz : rm2.cells = 0 ∧ rm2.slots = 0) (hR : rm2.frames + 1 ≤ R.frames ∧ 8 + (nL2 + 11) + rm2.locals ≤ R.locals) (hsize : ls.size = nL) (hroom : (rest.map fun v => v.category).sum ≤ 8) (hcs : cells ≤ R.cells ∧ slots ≤ R.slots) {st0 st1 : List Value} (hst : st0 = As.reverse ++ .ref b :: rest) (hst1 : r.toList ++ rest = st1) (hdg : decode cc pc = .ok (.invokevirtual index, 3))
    (kk : ∀ (H1 : Heap) (locs1 : List Loc), LPt D tys cJ ad1 N1 ad2 A s E1 E2' o f H1 locs1 → W p l e R s m args below meth c H1 locs1 cells slots Q (F0 m (pc + 3) ls st1)) : W p l e R s m args below meth c H locs cells slots Q (F0 m pc ls st0) := by
  subst hst; subst hst1; subst hna
  have hr := va_runV (As := As) (rest := rest) (n := As.length) (C := y.cls) (b := b) (bytes := cc2) (maxL := nL2) (ret := ret2) (index := index) (g := F0 m pc ls (As.reverse ++ .ref b :: rest)) (locs := locs) (below := below) (p := p) (l := l) (e := e) (R := R) (meth := meth) (cells := cells) (slots := slots) S (hM H.size) (cwV As.length S.2.2.2.2 (bw_GI (fun _ h => h) (fun w hw => by
    unfold wsV at hw
    rcases List.mem_append.mp hw with h | h
    · exact hwd w (by simp only [List.mem_cons, List.not_mem_nil, or_false] at h ⊢; rcases h with h | h | h | h <;> simp [h])
    · rcases List.mem_cons.mp h with h | h
      · exact hwd w (by rw [h]; simp)
      · exact h)) rfl hz.1 hz.2 hd hR) ⟨(rb_pre lp.wm EN0_ok _).1, hrecv, (rb_pre lp.wm EN0_ok _).2⟩ rfl rfl hsize rfl (lv_room hroom) hdg hcs
  intro T hT X
  obtain ⟨v, st₀, t, T', L, h0, X', hL, e1, e2, ⟨hv, hP1, hz, hk⟩, st⟩ := hr T hT X
  cases hv
  rw [h0] at hz hk
  obtain ⟨hK, hKJ, hP, hD, hS, hA, hEN⟩ := lp
  have hk' : ∀ q : Nat, q < H.size → ¬ va_A (rlw ad2 E2 12) H.size q → T'.heap[q]? = H[q]? := fun q h1 h2 => by rw [e1]; exact hk q h1 h2
  obtain ⟨j1, j2⟩ := join_suf hP hD (rlw_adr (E' := E2')) hk' (by rw [e1]; exact hP1)
  obtain ⟨t2, a1, b1⟩ := kk T'.heap (locs ++ L) ⟨hK, hKJ, j1, j2, lp_S (suf_D hD) hS hA (by rw [e1]; exact hz) hk' hL, hA, hEN⟩ T' rfl X'
  exact ⟨t2, st t2 a1, b1⟩
/-- a call of the class -/
theorem lp_callC (S : CallFix p m c cc nL s args bw own) (lp : LPt D tys cJ ad1 N1 ad2 A s E1 E2 o f H locs) {y : MethodName} {cc2 : ByteArray} {nL2 : Nat} {ret2 : Option FieldType} {rm2 : Room} {b : Nat} {As : List Value} {r : Option Value} {index na : Nat}
    (hM : RM l y cc2 nL2 ret2 rm2 D tys ENC (.ref b :: As) ad1 N1 E1 E1' r) (hwd : ∀ w ∈ ([.methodLink own index y, .instanceMethod y, .selects y.cls y y, .initialized y.cls, .code y cc2 nL2 ret2] : List Cond), w ∈ bw)
    (hrecv : ∃ cell : Cell, H[b]? = some cell ∧ cell.vm.isStatics = false ∧ s.vm.findClass y.cls = some cell.cls) (hd : y.cls = y.cls ∧ y.cls ≠ "java/lang/invoke/MethodHandle" ∧ y.cls ≠ "java/lang/invoke/VarHandle" ∧ (parseMethodDescriptor y.desc).map (fun d => d.parameters.length) = some na) (hna : As.length = na)
    (hz : rm2.cells = 0 ∧ rm2.slots = 0) (hR : rm2.frames + 1 ≤ R.frames ∧ 8 + (nL2 + 11) + rm2.locals ≤ R.locals) (hsize : ls.size = nL) (hroom : (rest.map fun v => v.category).sum ≤ 8) (hcs : cells ≤ R.cells ∧ slots ≤ R.slots) {st0 st1 : List Value} (hst : st0 = As.reverse ++ .ref b :: rest) (hst1 : r.toList ++ rest = st1) (hdg : decode cc pc = .ok (.invokevirtual index, 3))
    (kk : ∀ (H1 : Heap) (locs1 : List Loc), LPt D tys cJ ad1 N1 ad2 A s E1' E2 o f H1 locs1 → W p l e R s m args below meth c H1 locs1 cells slots Q (F0 m (pc + 3) ls st1)) : W p l e R s m args below meth c H locs cells slots Q (F0 m pc ls st0) := by
  subst hst; subst hst1; subst hna
  have hr := va_runV (As := As) (rest := rest) (n := As.length) (C := y.cls) (b := b) (bytes := cc2) (maxL := nL2) (ret := ret2) (index := index) (g := F0 m pc ls (As.reverse ++ .ref b :: rest)) (locs := locs) (below := below) (p := p) (l := l) (e := e) (R := R) (meth := meth) (cells := cells) (slots := slots) S (hM H.size) (cwV As.length S.2.2.2.2 (bw_GI (fun _ h => h) (fun w hw => by
    unfold wsV at hw
    rcases List.mem_append.mp hw with h | h
    · exact hwd w (by simp only [List.mem_cons, List.not_mem_nil, or_false] at h ⊢; rcases h with h | h | h | h <;> simp [h])
    · rcases List.mem_cons.mp h with h | h
      · exact hwd w (by rw [h]; simp)
      · exact h)) rfl hz.1 hz.2 hd hR) ⟨(rb_pre lp.wo.wb ENC_ok _).1, hrecv, (rb_pre lp.wo.wb ENC_ok _).2⟩ rfl rfl hsize rfl (lv_room hroom) hdg hcs
  intro T hT X
  obtain ⟨v, st₀, t, T', L, h0, X', hL, e1, e2, ⟨hv, hP1, hz, hk⟩, st⟩ := hr T hT X
  cases hv
  rw [h0] at hz hk
  obtain ⟨hK, hKJ, hP, hD, hS, hA, hEN⟩ := lp
  unfold oW at hP hD
  rw [List.append_assoc] at hP hD
  have hk' : ∀ q : Nat, q < H.size → ¬ va_A (rlw ad1 E1 N1) H.size q → T'.heap[q]? = H[q]? := fun q h1 h2 => by rw [e1]; exact hk q h1 h2
  obtain ⟨j1, j2⟩ := join_pre hP hD (rlw_adr (E' := E1')) hk' (by rw [e1]; exact hP1)
  rw [← List.append_assoc] at j1 j2
  obtain ⟨t2, a1, b1⟩ := kk T'.heap (locs ++ L) ⟨hK, hKJ, j1, j2, lp_S (pre_D hD) hS hA (by rw [e1]; exact hz) hk' hL, hA, hEN⟩ T' rfl X'
  exact ⟨t2, st t2 a1, b1⟩
theorem lp_lald (S : CallFix p m c cc nL s args bw own) (lp : LPt D tys cJ ad1 N1 ad2 A s E1 E2 o f H locs) (hdg : decode cc pc = .ok (.laload, 1))
    (kk : W p l e R s m args below meth c H locs cells slots Q (F0 m (pc + 1) ls (.long (f 0) :: rest))) : W p l e R s m args below meth c H locs cells slots Q (F0 m pc ls (.int (nI 0) :: .ref o :: rest)) :=
  va_lald (D := D) S.1 S.2.1 lp.2.1 lp.2.2.1 N1 0 (pre_at oW_at) rfl (vp_in_nI (by omega) (by omega)) hdg kk
theorem lp_ld (S : CallFix p m c cc nL s args bw own) (hS : va_S A s.heap H locs) {b L : Nat} {xs : Nat → Int32} (hX : va_X b L xs s s.heap) (hbl : b < s.heap.size) (hbA : ¬ A b) (hL : L ≤ 2050) (j : Nat) (hj : j < L) (hdg : decode cc pc = .ok (.iaload, 1))
    (kk : W p l e R s m args below meth c H locs cells slots Q (F0 m (pc + 1) ls (.int (xs j) :: rest))) : W p l e R s m args below meth c H locs cells slots Q (F0 m pc ls (.int (nI j) :: .ref b :: rest)) := by
  refine va_sld S.1 S.2.1 hX hbl hbA hS (vp_in_nI hj (by omega)) hdg ?_
  rw [nI_clamp (by omega)]
  exact kk
end LPS

theorem hdL_worth : yL_worth.cls = yL_worth.cls ∧ yL_worth.cls ≠ "java/lang/invoke/MethodHandle" ∧ yL_worth.cls ≠ "java/lang/invoke/VarHandle" ∧ (parseMethodDescriptor yL_worth.desc).map (fun d => d.parameters.length) = some 4 := by decide +kernel
theorem hdL_act : yL_act.cls = yL_act.cls ∧ yL_act.cls ≠ "java/lang/invoke/MethodHandle" ∧ yL_act.cls ≠ "java/lang/invoke/VarHandle" ∧ (parseMethodDescriptor yL_act.desc).map (fun d => d.parameters.length) = some 3 := by decide +kernel
theorem hdL_resend : yL_resend.cls = yL_resend.cls ∧ yL_resend.cls ≠ "java/lang/invoke/MethodHandle" ∧ yL_resend.cls ≠ "java/lang/invoke/VarHandle" ∧ (parseMethodDescriptor yL_resend.desc).map (fun d => d.parameters.length) = some 3 := by decide +kernel
theorem hdL_deliver : yL_deliver.cls = yL_deliver.cls ∧ yL_deliver.cls ≠ "java/lang/invoke/MethodHandle" ∧ yL_deliver.cls ≠ "java/lang/invoke/VarHandle" ∧ (parseMethodDescriptor yL_deliver.desc).map (fun d => d.parameters.length) = some 3 := by decide +kernel
theorem hdL_lose : yL_lose.cls = yL_lose.cls ∧ yL_lose.cls ≠ "java/lang/invoke/MethodHandle" ∧ yL_lose.cls ≠ "java/lang/invoke/VarHandle" ∧ (parseMethodDescriptor yL_lose.desc).map (fun d => d.parameters.length) = some 3 := by decide +kernel
theorem hdL_twin : yL_twin.cls = yL_twin.cls ∧ yL_twin.cls ≠ "java/lang/invoke/MethodHandle" ∧ yL_twin.cls ≠ "java/lang/invoke/VarHandle" ∧ (parseMethodDescriptor yL_twin.desc).map (fun d => d.parameters.length) = some 3 := by decide +kernel
theorem hdL_letter : yL_letter.cls = yL_letter.cls ∧ yL_letter.cls ≠ "java/lang/invoke/MethodHandle" ∧ yL_letter.cls ≠ "java/lang/invoke/VarHandle" ∧ (parseMethodDescriptor yL_letter.desc).map (fun d => d.parameters.length) = some 4 := by decide +kernel
theorem hdL_crew : yL_crew.cls = yL_crew.cls ∧ yL_crew.cls ≠ "java/lang/invoke/MethodHandle" ∧ yL_crew.cls ≠ "java/lang/invoke/VarHandle" ∧ (parseMethodDescriptor yL_crew.desc).map (fun d => d.parameters.length) = some 4 := by decide +kernel
theorem hdL_known : yL_known.cls = yL_known.cls ∧ yL_known.cls ≠ "java/lang/invoke/MethodHandle" ∧ yL_known.cls ≠ "java/lang/invoke/VarHandle" ∧ (parseMethodDescriptor yL_known.desc).map (fun d => d.parameters.length) = some 4 := by decide +kernel
theorem hdL_desk : yL_desk.cls = yL_desk.cls ∧ yL_desk.cls ≠ "java/lang/invoke/MethodHandle" ∧ yL_desk.cls ≠ "java/lang/invoke/VarHandle" ∧ (parseMethodDescriptor yL_desk.desc).map (fun d => d.parameters.length) = some 4 := by decide +kernel
theorem hdL_phase : yL_phase.cls = yL_phase.cls ∧ yL_phase.cls ≠ "java/lang/invoke/MethodHandle" ∧ yL_phase.cls ≠ "java/lang/invoke/VarHandle" ∧ (parseMethodDescriptor yL_phase.desc).map (fun d => d.parameters.length) = some 2 := by decide +kernel
theorem hdL_total : yL_total.cls = yL_total.cls ∧ yL_total.cls ≠ "java/lang/invoke/MethodHandle" ∧ yL_total.cls ≠ "java/lang/invoke/VarHandle" ∧ (parseMethodDescriptor yL_total.desc).map (fun d => d.parameters.length) = some 2 := by decide +kernel
theorem hdL_proves : yL_proves.cls = yL_proves.cls ∧ yL_proves.cls ≠ "java/lang/invoke/MethodHandle" ∧ yL_proves.cls ≠ "java/lang/invoke/VarHandle" ∧ (parseMethodDescriptor yL_proves.desc).map (fun d => d.parameters.length) = some 2 := by decide +kernel
theorem hdL_count : yL_count.cls = yL_count.cls ∧ yL_count.cls ≠ "java/lang/invoke/MethodHandle" ∧ yL_count.cls ≠ "java/lang/invoke/VarHandle" ∧ (parseMethodDescriptor yL_count.desc).map (fun d => d.parameters.length) = some 3 := by decide +kernel
theorem hdL_cell : yL_cell.cls = yL_cell.cls ∧ yL_cell.cls ≠ "java/lang/invoke/MethodHandle" ∧ yL_cell.cls ≠ "java/lang/invoke/VarHandle" ∧ (parseMethodDescriptor yL_cell.desc).map (fun d => d.parameters.length) = some 2 := by decide +kernel

set_option maxHeartbeats 4000000 in
set_option maxRecDepth 100000 in
theorem g_worth {p : Program} {l : Launch} {e : Env} {s : State} {m : MethodId} {args : Array Value} {below : List Frame} {meth : Method} {c0 : Code} {H : Heap} {locs : List Loc} {cells slots : Nat} {Q : State → Prop} {ls : Array Slot} {D : va_G} {A : Nat → Prop} {cI cC cD cJ : ClassId} {ad1 ad2 : Nat → Nat} {N1 o b L i : Nat} {xs : Nat → Int32} {E1 E1' : Nat → va_E} {f f' : Nat → Int64} {th st st' : Int32} {n n' mn mn' : Nat} {ar ar' : Nat → Nat → Int32} {rm2 : Room} {k : Int32} {x1 x2 x3 : Int32} (S : CallFix p m c0 cL_law 7 s args bw "LetterAuctionLaw") (hX : va_X b L xs s s.heap) (hbl : b < s.heap.size) (hbA : ¬ A b) (hL : L ≤ 2050) (hi : i + 3 < L) (hcs : cells + 1 ≤ 601475 ∧ slots + 6 ≤ 7291645) (hl : lv_has ls 7 [(0, .ref b), (1, .ref (ad1 0)), (2, .ref (ad2 0)), (3, .ref o), (4, .int (nI i))]) (e1 : xs (i + 1) = x1) (e2 : xs (i + 2) = x2) (e3 : xs (i + 3) = x3) (lp : LPt D (ty3 cI cC cD) cJ ad1 N1 ad2 A s E1 (mE ad2 cI th n st mn ar) o f H locs) (hW : RLc l yL_worth cL_worth 5 [(0, 7, 10, 13), (0, 7, 14, 15)] D (ty3 cI cC cD) cJ [.ref (ad1 0), .int x1, .int x2, .int x3] ad1 N1 E1 E1' o f f' k) (hM : RM l yX4_worth cX4_worth 6 none rm2 D (ty3 cI cC cD) EN0 [.ref (ad2 0), .int x1, .int x2, .int x3] ad2 12 (mE ad2 cI th n st mn ar) (mE ad2 cI k n' st' mn' ar') none) (hz : rm2.cells = 0 ∧ rm2.slots = 0) (hR : rm2.frames + 1 ≤ 11 ∧ 8 + (6 + 11) + rm2.locals ≤ 390) (kk : ∀ (H1 : Heap) (locs1 : List Loc) (ls1 : Array Slot), LPt D (ty3 cI cC cD) cJ ad1 N1 ad2 A s E1' (mE ad2 cI k n' st' mn' ar') o f' H1 locs1 → lv_has ls1 7 [(0, .ref b), (1, .ref (ad1 0)), (2, .ref (ad2 0)), (3, .ref o), (4, .int (nI i))] → W p l e room_1 s m args below meth c0 H1 locs1 (cells + 1) (slots + 6) Q (F0 m 969 ls1 [])) : W p l e room_1 s m args below meth c0 H locs cells slots Q (F0 m 136 ls []) := by
  subst e1
  subst e2
  subst e3
  have hx := S.1
  have hb := S.2.1
  refine lv_aload_n hx hb dL_law_136 rfl (lv_at hl 1 rfl) ?_
  refine lv_aload_n hx hb dL_law_137 rfl (lv_at hl 0 rfl) ?_
  refine lv_iload hx hb dL_law_138 (lv_at hl 4 rfl) ?_
  refine lv_iconst (v := nI 1) hx hb dL_law_140 (by decide) ?_
  refine lv_iadd hx hb dL_law_141 ?_
  refine nb_ren (y := nI (i + 1)) (nI_add _ _) ?_
  refine lp_ld S lp.2.2.2.2.1 hX hbl hbA hL (i + 1) (by omega) dL_law_142 ?_
  refine lv_aload_n hx hb dL_law_143 rfl (lv_at hl 0 rfl) ?_
  refine lv_iload hx hb dL_law_144 (lv_at hl 4 rfl) ?_
  refine lv_iconst (v := nI 2) hx hb dL_law_146 (by decide) ?_
  refine lv_iadd hx hb dL_law_147 ?_
  refine nb_ren (y := nI (i + 2)) (nI_add _ _) ?_
  refine lp_ld S lp.2.2.2.2.1 hX hbl hbA hL (i + 2) (by omega) dL_law_148 ?_
  refine lv_aload_n hx hb dL_law_149 rfl (lv_at hl 0 rfl) ?_
  refine lv_iload hx hb dL_law_150 (lv_at hl 4 rfl) ?_
  refine lv_iconst (v := nI 3) hx hb dL_law_152 (by decide) ?_
  refine lv_iadd hx hb dL_law_153 ?_
  refine nb_ren (y := nI (i + 3)) (nI_add _ _) ?_
  refine lp_ld S lp.2.2.2.2.1 hX hbl hbA hL (i + 3) (by omega) dL_law_154 ?_
  refine lp_callL S lp hW (bw4 bw_160 bw_161 bw_31 bw_162) hdL_worth rfl ⟨by decide, by decide⟩ hl.1 (Nat.le_of_ble_eq_true rfl) hcs (rest := []) rfl dL_law_155 (fun H locs lp => ?_)
  refine lv_istore (lv' := [(5, .int k), (0, .ref b), (1, .ref (ad1 0)), (2, .ref (ad2 0)), (3, .ref o), (4, .int (nI i))]) hx hb dL_law_158 hl (by decide) rfl (fun ls hl => ?_)
  refine lv_aload_n hx hb dL_law_160 rfl (lv_at hl 3 rfl) ?_
  refine lv_aload_n hx hb dL_law_161 rfl (lv_at hl 1 rfl) ?_
  refine lv_iload hx hb dL_law_162 (lv_at hl 5 rfl) ?_
  refine lv_iconst (v := nI 1) hx hb dL_law_164 (by decide) ?_
  refine lv_iadd hx hb dL_law_165 ?_
  refine nb_ren (y := nI (i + 1)) (nI_add _ _) ?_
  refine lp_ld S lp.2.2.2.2.1 hX hbl hbA hL (i + 1) (by omega) dL_law_166 ?_
  refine lv_aload_n hx hb dL_law_167 rfl (lv_at hl 1 rfl) ?_
  refine lv_iload hx hb dL_law_168 (lv_at hl 5 rfl) ?_
  refine lv_iconst (v := nI 2) hx hb dL_law_170 (by decide) ?_
  refine lv_iadd hx hb dL_law_171 ?_
  refine nb_ren (y := nI (i + 2)) (nI_add _ _) ?_
  refine lp_ld S lp.2.2.2.2.1 hX hbl hbA hL (i + 2) (by omega) dL_law_172 ?_
  refine lv_aload_n hx hb dL_law_173 rfl (lv_at hl 1 rfl) ?_
  refine lv_iload hx hb dL_law_174 (lv_at hl 5 rfl) ?_
  refine lv_iconst (v := nI 3) hx hb dL_law_176 (by decide) ?_
  refine lv_iadd hx hb dL_law_177 ?_
  refine nb_ren (y := nI (i + 3)) (nI_add _ _) ?_
  refine lp_ld S lp.2.2.2.2.1 hX hbl hbA hL (i + 3) (by omega) dL_law_178 ?_
  refine lp_callM S lp hM (bw5 bw_512 bw_513 bw_514 bw_37 bw_515) (rb_recv lp.wm 0 (by omega) rfl rfl) hdX4_worth rfl hz hR hl.1 (Nat.le_of_ble_eq_true rfl) hcs (rest := []) (st1 := []) rfl rfl dL_law_179 (fun H locs lp => ?_)
  refine lv_aload_n hx hb dL_law_182 rfl (lv_at hl 3 rfl) ?_
  refine lp_callM S lp (m_thrown l D cI cC cD ad2 _ _ _ _ _) (bw5 bw_508 bw_509 bw_510 bw_37 bw_511) (rb_recv lp.wm 0 (by omega) rfl rfl) hdX4_thrown rfl ⟨rfl, rfl⟩ ⟨by decide, by decide⟩ hl.1 (Nat.le_of_ble_eq_true rfl) hcs (rest := []) (st1 := [.int k]) rfl rfl dL_law_183 (fun H locs lp => ?_)
  refine lv_iload hx hb dL_law_186 (lv_at hl 0 rfl) ?_
  refine lv_icmp_eq (tgt := 193) hx hb dL_law_188 (by decide) (fun _ => ?_) (fun h9 => absurd rfl h9)
  refine lv_goto (tgt := 969) hx hb dL_law_193 (by decide) ?_
  exact kk _ _ _ lp (lv_sub hl [1, 2, 3, 4, 5] rfl)
set_option maxHeartbeats 4000000 in
set_option maxRecDepth 100000 in
theorem g_act {p : Program} {l : Launch} {e : Env} {s : State} {m : MethodId} {args : Array Value} {below : List Frame} {meth : Method} {c0 : Code} {H : Heap} {locs : List Loc} {cells slots : Nat} {Q : State → Prop} {ls : Array Slot} {D : va_G} {A : Nat → Prop} {cI cC cD cJ : ClassId} {ad1 ad2 : Nat → Nat} {N1 o b L i : Nat} {xs : Nat → Int32} {E1 E1' : Nat → va_E} {f f' : Nat → Int64} {th st st' : Int32} {n n' mn mn' : Nat} {ar ar' : Nat → Nat → Int32} {rm2 : Room} {k : Int32} {v : Int32} {x1 : Int32} (S : CallFix p m c0 cL_law 7 s args bw "LetterAuctionLaw") (hX : va_X b L xs s s.heap) (hbl : b < s.heap.size) (hbA : ¬ A b) (hL : L ≤ 2050) (hi : i + 3 < L) (hcs : cells + 1 ≤ 601475 ∧ slots + 6 ≤ 7291645) (hl : lv_has ls 7 [(0, .ref b), (1, .ref (ad1 0)), (2, .ref (ad2 0)), (3, .ref o), (4, .int (nI i))]) (e1 : xs (i + 1) = x1) (lp : LPt D (ty3 cI cC cD) cJ ad1 N1 ad2 A s E1 (mE ad2 cI th n st mn ar) o f H locs) (hW : RLc l yL_act cL_act 4 [(0, 9, 12, 13), (0, 9, 15, 15)] D (ty3 cI cC cD) cJ [.ref (ad1 0), .int x1, .ref o] ad1 N1 E1 E1' o f f' k) (hT : k = 0 → f' 0 = v.toInt64) (hM : RM l yX4_act cX4_act 5 (some .int) rm2 D (ty3 cI cC cD) EN0 [.ref (ad2 0), .int x1] ad2 12 (mE ad2 cI th n st mn ar) (mE ad2 cI k n' st' mn' ar') (some (.int v))) (hz : rm2.cells = 0 ∧ rm2.slots = 0) (hR : rm2.frames + 1 ≤ 11 ∧ 8 + (5 + 11) + rm2.locals ≤ 390) (kk : ∀ (H1 : Heap) (locs1 : List Loc) (ls1 : Array Slot), LPt D (ty3 cI cC cD) cJ ad1 N1 ad2 A s E1' (mE ad2 cI k n' st' mn' ar') o f' H1 locs1 → lv_has ls1 7 [(0, .ref b), (1, .ref (ad1 0)), (2, .ref (ad2 0)), (3, .ref o), (4, .int (nI i))] → W p l e room_1 s m args below meth c0 H1 locs1 (cells + 1) (slots + 6) Q (F0 m 969 ls1 [])) : W p l e room_1 s m args below meth c0 H locs cells slots Q (F0 m 196 ls []) := by
  subst e1
  have hx := S.1
  have hb := S.2.1
  refine lv_aload_n hx hb dL_law_196 rfl (lv_at hl 1 rfl) ?_
  refine lv_aload_n hx hb dL_law_197 rfl (lv_at hl 0 rfl) ?_
  refine lv_iload hx hb dL_law_198 (lv_at hl 4 rfl) ?_
  refine lv_iconst (v := nI 1) hx hb dL_law_200 (by decide) ?_
  refine lv_iadd hx hb dL_law_201 ?_
  refine nb_ren (y := nI (i + 1)) (nI_add _ _) ?_
  refine lp_ld S lp.2.2.2.2.1 hX hbl hbA hL (i + 1) (by omega) dL_law_202 ?_
  refine lv_aload_n hx hb dL_law_203 rfl (lv_at hl 3 rfl) ?_
  refine lp_callL S lp hW (bw4 bw_280 bw_281 bw_31 bw_282) hdL_act rfl ⟨by decide, by decide⟩ hl.1 (Nat.le_of_ble_eq_true rfl) hcs (rest := []) rfl dL_law_204 (fun H locs lp => ?_)
  refine lv_istore (lv' := [(5, .int k), (0, .ref b), (1, .ref (ad1 0)), (2, .ref (ad2 0)), (3, .ref o), (4, .int (nI i))]) hx hb dL_law_207 hl (by decide) rfl (fun ls hl => ?_)
  refine lv_aload_n hx hb dL_law_209 rfl (lv_at hl 3 rfl) ?_
  refine lv_aload_n hx hb dL_law_210 rfl (lv_at hl 1 rfl) ?_
  refine lv_iload hx hb dL_law_211 (lv_at hl 5 rfl) ?_
  refine lv_iconst (v := nI 1) hx hb dL_law_213 (by decide) ?_
  refine lv_iadd hx hb dL_law_214 ?_
  refine nb_ren (y := nI (i + 1)) (nI_add _ _) ?_
  refine lp_ld S lp.2.2.2.2.1 hX hbl hbA hL (i + 1) (by omega) dL_law_215 ?_
  refine lp_callM S lp hM (bw5 bw_524 bw_525 bw_526 bw_37 bw_527) (rb_recv lp.wm 0 (by omega) rfl rfl) hdX4_act rfl hz hR hl.1 (Nat.le_of_ble_eq_true rfl) hcs (rest := []) (st1 := [.int v]) rfl rfl dL_law_216 (fun H locs lp => ?_)
  refine lv_istore (lv' := [(6, .int v), (5, .int k), (0, .ref b), (1, .ref (ad1 0)), (2, .ref (ad2 0)), (3, .ref o), (4, .int (nI i))]) hx hb dL_law_219 hl (by decide) rfl (fun ls hl => ?_)
  refine lv_aload_n hx hb dL_law_221 rfl (lv_at hl 4 rfl) ?_
  refine lp_callM S lp (m_thrown l D cI cC cD ad2 _ _ _ _ _) (bw5 bw_508 bw_509 bw_510 bw_37 bw_511) (rb_recv lp.wm 0 (by omega) rfl rfl) hdX4_thrown rfl ⟨rfl, rfl⟩ ⟨by decide, by decide⟩ hl.1 (Nat.le_of_ble_eq_true rfl) hcs (rest := []) (st1 := [.int k]) rfl rfl dL_law_222 (fun H locs lp => ?_)
  refine lv_iload hx hb dL_law_225 (lv_at hl 1 rfl) ?_
  refine lv_icmp_eq (tgt := 232) hx hb dL_law_227 (by decide) (fun _ => ?_) (fun h9 => absurd rfl h9)
  refine lv_iload hx hb dL_law_232 (lv_at hl 1 rfl) ?_
  refine lv_if_ne (tgt := 249) hx hb dL_law_234 (by decide) (fun hk0 => ?_) (fun hk0 => ?_)
  · refine lv_goto (tgt := 969) hx hb dL_law_249 (by decide) ?_
    exact kk _ _ _ lp (lv_sub hl [2, 3, 4, 5, 6] rfl)
  · refine lv_aload_n hx hb dL_law_237 rfl (lv_at hl 5 rfl) ?_
    refine lv_iconst (v := nI 0) hx hb dL_law_238 (by decide) ?_
    refine lp_lald S lp dL_law_239 ?_
    refine lv_iload hx hb dL_law_240 (lv_at hl 0 rfl) ?_
    refine lv_i2l hx hb dL_law_242 rfl ?_
    refine lv_lcmp0 hx hb (hT hk0) dL_law_243 ?_
    refine lv_if_eq (tgt := 249) hx hb dL_law_244 (by decide) (fun _ => ?_) (fun h9 => absurd rfl h9)
    refine lv_goto (tgt := 969) hx hb dL_law_249 (by decide) ?_
    exact kk _ _ _ lp (lv_sub hl [2, 3, 4, 5, 6] rfl)
set_option maxHeartbeats 4000000 in
set_option maxRecDepth 100000 in
theorem g_resend {p : Program} {l : Launch} {e : Env} {s : State} {m : MethodId} {args : Array Value} {below : List Frame} {meth : Method} {c0 : Code} {H : Heap} {locs : List Loc} {cells slots : Nat} {Q : State → Prop} {ls : Array Slot} {D : va_G} {A : Nat → Prop} {cI cC cD cJ : ClassId} {ad1 ad2 : Nat → Nat} {N1 o b L i : Nat} {xs : Nat → Int32} {E1 E1' : Nat → va_E} {f f' : Nat → Int64} {th st st' : Int32} {n n' mn mn' : Nat} {ar ar' : Nat → Nat → Int32} {rm2 : Room} {k : Int32} {v : Int32} {x1 : Int32} (S : CallFix p m c0 cL_law 7 s args bw "LetterAuctionLaw") (hX : va_X b L xs s s.heap) (hbl : b < s.heap.size) (hbA : ¬ A b) (hL : L ≤ 2050) (hi : i + 3 < L) (hcs : cells + 1 ≤ 601475 ∧ slots + 6 ≤ 7291645) (hl : lv_has ls 7 [(0, .ref b), (1, .ref (ad1 0)), (2, .ref (ad2 0)), (3, .ref o), (4, .int (nI i))]) (e1 : xs (i + 1) = x1) (lp : LPt D (ty3 cI cC cD) cJ ad1 N1 ad2 A s E1 (mE ad2 cI th n st mn ar) o f H locs) (hW : RLc l yL_resend cL_resend 4 [(0, 9, 12, 13), (0, 9, 15, 15)] D (ty3 cI cC cD) cJ [.ref (ad1 0), .int x1, .ref o] ad1 N1 E1 E1' o f f' k) (hT : k = 0 → f' 0 = v.toInt64) (hM : RM l yX4_resend cX4_resend 2 (some .int) rm2 D (ty3 cI cC cD) EN0 [.ref (ad2 0), .int x1] ad2 12 (mE ad2 cI th n st mn ar) (mE ad2 cI k n' st' mn' ar') (some (.int v))) (hz : rm2.cells = 0 ∧ rm2.slots = 0) (hR : rm2.frames + 1 ≤ 11 ∧ 8 + (2 + 11) + rm2.locals ≤ 390) (kk : ∀ (H1 : Heap) (locs1 : List Loc) (ls1 : Array Slot), LPt D (ty3 cI cC cD) cJ ad1 N1 ad2 A s E1' (mE ad2 cI k n' st' mn' ar') o f' H1 locs1 → lv_has ls1 7 [(0, .ref b), (1, .ref (ad1 0)), (2, .ref (ad2 0)), (3, .ref o), (4, .int (nI i))] → W p l e room_1 s m args below meth c0 H1 locs1 (cells + 1) (slots + 6) Q (F0 m 969 ls1 [])) : W p l e room_1 s m args below meth c0 H locs cells slots Q (F0 m 252 ls []) := by
  subst e1
  have hx := S.1
  have hb := S.2.1
  refine lv_aload_n hx hb dL_law_252 rfl (lv_at hl 1 rfl) ?_
  refine lv_aload_n hx hb dL_law_253 rfl (lv_at hl 0 rfl) ?_
  refine lv_iload hx hb dL_law_254 (lv_at hl 4 rfl) ?_
  refine lv_iconst (v := nI 1) hx hb dL_law_256 (by decide) ?_
  refine lv_iadd hx hb dL_law_257 ?_
  refine nb_ren (y := nI (i + 1)) (nI_add _ _) ?_
  refine lp_ld S lp.2.2.2.2.1 hX hbl hbA hL (i + 1) (by omega) dL_law_258 ?_
  refine lv_aload_n hx hb dL_law_259 rfl (lv_at hl 3 rfl) ?_
  refine lp_callL S lp hW (bw4 bw_313 bw_314 bw_31 bw_315) hdL_resend rfl ⟨by decide, by decide⟩ hl.1 (Nat.le_of_ble_eq_true rfl) hcs (rest := []) rfl dL_law_260 (fun H locs lp => ?_)
  refine lv_istore (lv' := [(5, .int k), (0, .ref b), (1, .ref (ad1 0)), (2, .ref (ad2 0)), (3, .ref o), (4, .int (nI i))]) hx hb dL_law_263 hl (by decide) rfl (fun ls hl => ?_)
  refine lv_aload_n hx hb dL_law_265 rfl (lv_at hl 3 rfl) ?_
  refine lv_aload_n hx hb dL_law_266 rfl (lv_at hl 1 rfl) ?_
  refine lv_iload hx hb dL_law_267 (lv_at hl 5 rfl) ?_
  refine lv_iconst (v := nI 1) hx hb dL_law_269 (by decide) ?_
  refine lv_iadd hx hb dL_law_270 ?_
  refine nb_ren (y := nI (i + 1)) (nI_add _ _) ?_
  refine lp_ld S lp.2.2.2.2.1 hX hbl hbA hL (i + 1) (by omega) dL_law_271 ?_
  refine lp_callM S lp hM (bw5 bw_536 bw_537 bw_538 bw_37 bw_539) (rb_recv lp.wm 0 (by omega) rfl rfl) hdX4_resend rfl hz hR hl.1 (Nat.le_of_ble_eq_true rfl) hcs (rest := []) (st1 := [.int v]) rfl rfl dL_law_272 (fun H locs lp => ?_)
  refine lv_istore (lv' := [(6, .int v), (5, .int k), (0, .ref b), (1, .ref (ad1 0)), (2, .ref (ad2 0)), (3, .ref o), (4, .int (nI i))]) hx hb dL_law_275 hl (by decide) rfl (fun ls hl => ?_)
  refine lv_aload_n hx hb dL_law_277 rfl (lv_at hl 4 rfl) ?_
  refine lp_callM S lp (m_thrown l D cI cC cD ad2 _ _ _ _ _) (bw5 bw_508 bw_509 bw_510 bw_37 bw_511) (rb_recv lp.wm 0 (by omega) rfl rfl) hdX4_thrown rfl ⟨rfl, rfl⟩ ⟨by decide, by decide⟩ hl.1 (Nat.le_of_ble_eq_true rfl) hcs (rest := []) (st1 := [.int k]) rfl rfl dL_law_278 (fun H locs lp => ?_)
  refine lv_iload hx hb dL_law_281 (lv_at hl 1 rfl) ?_
  refine lv_icmp_eq (tgt := 288) hx hb dL_law_283 (by decide) (fun _ => ?_) (fun h9 => absurd rfl h9)
  refine lv_iload hx hb dL_law_288 (lv_at hl 1 rfl) ?_
  refine lv_if_ne (tgt := 305) hx hb dL_law_290 (by decide) (fun hk0 => ?_) (fun hk0 => ?_)
  · refine lv_goto (tgt := 969) hx hb dL_law_305 (by decide) ?_
    exact kk _ _ _ lp (lv_sub hl [2, 3, 4, 5, 6] rfl)
  · refine lv_aload_n hx hb dL_law_293 rfl (lv_at hl 5 rfl) ?_
    refine lv_iconst (v := nI 0) hx hb dL_law_294 (by decide) ?_
    refine lp_lald S lp dL_law_295 ?_
    refine lv_iload hx hb dL_law_296 (lv_at hl 0 rfl) ?_
    refine lv_i2l hx hb dL_law_298 rfl ?_
    refine lv_lcmp0 hx hb (hT hk0) dL_law_299 ?_
    refine lv_if_eq (tgt := 305) hx hb dL_law_300 (by decide) (fun _ => ?_) (fun h9 => absurd rfl h9)
    refine lv_goto (tgt := 969) hx hb dL_law_305 (by decide) ?_
    exact kk _ _ _ lp (lv_sub hl [2, 3, 4, 5, 6] rfl)
set_option maxHeartbeats 4000000 in
set_option maxRecDepth 100000 in
theorem g_deliver {p : Program} {l : Launch} {e : Env} {s : State} {m : MethodId} {args : Array Value} {below : List Frame} {meth : Method} {c0 : Code} {H : Heap} {locs : List Loc} {cells slots : Nat} {Q : State → Prop} {ls : Array Slot} {D : va_G} {A : Nat → Prop} {cI cC cD cJ : ClassId} {ad1 ad2 : Nat → Nat} {N1 o b L i : Nat} {xs : Nat → Int32} {E1 E1' : Nat → va_E} {f f' : Nat → Int64} {th st st' : Int32} {n n' mn mn' : Nat} {ar ar' : Nat → Nat → Int32} {rm2 : Room} {k : Int32} {v : Int32} {x1 : Int32} (S : CallFix p m c0 cL_law 7 s args bw "LetterAuctionLaw") (hX : va_X b L xs s s.heap) (hbl : b < s.heap.size) (hbA : ¬ A b) (hL : L ≤ 2050) (hi : i + 3 < L) (hcs : cells + 1 ≤ 601475 ∧ slots + 6 ≤ 7291645) (hl : lv_has ls 7 [(0, .ref b), (1, .ref (ad1 0)), (2, .ref (ad2 0)), (3, .ref o), (4, .int (nI i))]) (e1 : xs (i + 1) = x1) (lp : LPt D (ty3 cI cC cD) cJ ad1 N1 ad2 A s E1 (mE ad2 cI th n st mn ar) o f H locs) (hW : RLc l yL_deliver cL_deliver 4 [(0, 9, 12, 27)] D (ty3 cI cC cD) cJ [.ref (ad1 0), .int x1, .ref o] ad1 N1 E1 E1' o f f' k) (hT : k = 0 → f' 0 = v.toInt64) (hM : RM l yX4_deliver cX4_deliver 7 (some .int) rm2 D (ty3 cI cC cD) EN0 [.ref (ad2 0), .int x1] ad2 12 (mE ad2 cI th n st mn ar) (mE ad2 cI k n' st' mn' ar') (some (.int v))) (hz : rm2.cells = 0 ∧ rm2.slots = 0) (hR : rm2.frames + 1 ≤ 11 ∧ 8 + (7 + 11) + rm2.locals ≤ 390) (kk : ∀ (H1 : Heap) (locs1 : List Loc) (ls1 : Array Slot), LPt D (ty3 cI cC cD) cJ ad1 N1 ad2 A s E1' (mE ad2 cI k n' st' mn' ar') o f' H1 locs1 → lv_has ls1 7 [(0, .ref b), (1, .ref (ad1 0)), (2, .ref (ad2 0)), (3, .ref o), (4, .int (nI i))] → W p l e room_1 s m args below meth c0 H1 locs1 (cells + 1) (slots + 6) Q (F0 m 969 ls1 [])) : W p l e room_1 s m args below meth c0 H locs cells slots Q (F0 m 308 ls []) := by
  subst e1
  have hx := S.1
  have hb := S.2.1
  refine lv_aload_n hx hb dL_law_308 rfl (lv_at hl 1 rfl) ?_
  refine lv_aload_n hx hb dL_law_309 rfl (lv_at hl 0 rfl) ?_
  refine lv_iload hx hb dL_law_310 (lv_at hl 4 rfl) ?_
  refine lv_iconst (v := nI 1) hx hb dL_law_312 (by decide) ?_
  refine lv_iadd hx hb dL_law_313 ?_
  refine nb_ren (y := nI (i + 1)) (nI_add _ _) ?_
  refine lp_ld S lp.2.2.2.2.1 hX hbl hbA hL (i + 1) (by omega) dL_law_314 ?_
  refine lv_aload_n hx hb dL_law_315 rfl (lv_at hl 3 rfl) ?_
  refine lp_callL S lp hW (bw4 bw_320 bw_321 bw_31 bw_322) hdL_deliver rfl ⟨by decide, by decide⟩ hl.1 (Nat.le_of_ble_eq_true rfl) hcs (rest := []) rfl dL_law_316 (fun H locs lp => ?_)
  refine lv_istore (lv' := [(5, .int k), (0, .ref b), (1, .ref (ad1 0)), (2, .ref (ad2 0)), (3, .ref o), (4, .int (nI i))]) hx hb dL_law_319 hl (by decide) rfl (fun ls hl => ?_)
  refine lv_aload_n hx hb dL_law_321 rfl (lv_at hl 3 rfl) ?_
  refine lv_aload_n hx hb dL_law_322 rfl (lv_at hl 1 rfl) ?_
  refine lv_iload hx hb dL_law_323 (lv_at hl 5 rfl) ?_
  refine lv_iconst (v := nI 1) hx hb dL_law_325 (by decide) ?_
  refine lv_iadd hx hb dL_law_326 ?_
  refine nb_ren (y := nI (i + 1)) (nI_add _ _) ?_
  refine lp_ld S lp.2.2.2.2.1 hX hbl hbA hL (i + 1) (by omega) dL_law_327 ?_
  refine lp_callM S lp hM (bw5 bw_540 bw_541 bw_542 bw_37 bw_543) (rb_recv lp.wm 0 (by omega) rfl rfl) hdX4_deliver rfl hz hR hl.1 (Nat.le_of_ble_eq_true rfl) hcs (rest := []) (st1 := [.int v]) rfl rfl dL_law_328 (fun H locs lp => ?_)
  refine lv_istore (lv' := [(6, .int v), (5, .int k), (0, .ref b), (1, .ref (ad1 0)), (2, .ref (ad2 0)), (3, .ref o), (4, .int (nI i))]) hx hb dL_law_331 hl (by decide) rfl (fun ls hl => ?_)
  refine lv_aload_n hx hb dL_law_333 rfl (lv_at hl 4 rfl) ?_
  refine lp_callM S lp (m_thrown l D cI cC cD ad2 _ _ _ _ _) (bw5 bw_508 bw_509 bw_510 bw_37 bw_511) (rb_recv lp.wm 0 (by omega) rfl rfl) hdX4_thrown rfl ⟨rfl, rfl⟩ ⟨by decide, by decide⟩ hl.1 (Nat.le_of_ble_eq_true rfl) hcs (rest := []) (st1 := [.int k]) rfl rfl dL_law_334 (fun H locs lp => ?_)
  refine lv_iload hx hb dL_law_337 (lv_at hl 1 rfl) ?_
  refine lv_icmp_eq (tgt := 344) hx hb dL_law_339 (by decide) (fun _ => ?_) (fun h9 => absurd rfl h9)
  refine lv_iload hx hb dL_law_344 (lv_at hl 1 rfl) ?_
  refine lv_if_ne (tgt := 361) hx hb dL_law_346 (by decide) (fun hk0 => ?_) (fun hk0 => ?_)
  · refine lv_goto (tgt := 969) hx hb dL_law_361 (by decide) ?_
    exact kk _ _ _ lp (lv_sub hl [2, 3, 4, 5, 6] rfl)
  · refine lv_aload_n hx hb dL_law_349 rfl (lv_at hl 5 rfl) ?_
    refine lv_iconst (v := nI 0) hx hb dL_law_350 (by decide) ?_
    refine lp_lald S lp dL_law_351 ?_
    refine lv_iload hx hb dL_law_352 (lv_at hl 0 rfl) ?_
    refine lv_i2l hx hb dL_law_354 rfl ?_
    refine lv_lcmp0 hx hb (hT hk0) dL_law_355 ?_
    refine lv_if_eq (tgt := 361) hx hb dL_law_356 (by decide) (fun _ => ?_) (fun h9 => absurd rfl h9)
    refine lv_goto (tgt := 969) hx hb dL_law_361 (by decide) ?_
    exact kk _ _ _ lp (lv_sub hl [2, 3, 4, 5, 6] rfl)
set_option maxHeartbeats 4000000 in
set_option maxRecDepth 100000 in
theorem g_lose {p : Program} {l : Launch} {e : Env} {s : State} {m : MethodId} {args : Array Value} {below : List Frame} {meth : Method} {c0 : Code} {H : Heap} {locs : List Loc} {cells slots : Nat} {Q : State → Prop} {ls : Array Slot} {D : va_G} {A : Nat → Prop} {cI cC cD cJ : ClassId} {ad1 ad2 : Nat → Nat} {N1 o b L i : Nat} {xs : Nat → Int32} {E1 E1' : Nat → va_E} {f f' : Nat → Int64} {th st st' : Int32} {n n' mn mn' : Nat} {ar ar' : Nat → Nat → Int32} {rm2 : Room} {k : Int32} {v : Int32} {x1 : Int32} (S : CallFix p m c0 cL_law 7 s args bw "LetterAuctionLaw") (hX : va_X b L xs s s.heap) (hbl : b < s.heap.size) (hbA : ¬ A b) (hL : L ≤ 2050) (hi : i + 3 < L) (hcs : cells + 1 ≤ 601475 ∧ slots + 6 ≤ 7291645) (hl : lv_has ls 7 [(0, .ref b), (1, .ref (ad1 0)), (2, .ref (ad2 0)), (3, .ref o), (4, .int (nI i))]) (e1 : xs (i + 1) = x1) (lp : LPt D (ty3 cI cC cD) cJ ad1 N1 ad2 A s E1 (mE ad2 cI th n st mn ar) o f H locs) (hW : RLc l yL_lose cL_lose 4 [(0, 9, 12, 27)] D (ty3 cI cC cD) cJ [.ref (ad1 0), .int x1, .ref o] ad1 N1 E1 E1' o f f' k) (hT : k = 0 → f' 0 = v.toInt64) (hM : RM l yX4_lose cX4_lose 2 (some .int) rm2 D (ty3 cI cC cD) EN0 [.ref (ad2 0), .int x1] ad2 12 (mE ad2 cI th n st mn ar) (mE ad2 cI k n' st' mn' ar') (some (.int v))) (hz : rm2.cells = 0 ∧ rm2.slots = 0) (hR : rm2.frames + 1 ≤ 11 ∧ 8 + (2 + 11) + rm2.locals ≤ 390) (kk : ∀ (H1 : Heap) (locs1 : List Loc) (ls1 : Array Slot), LPt D (ty3 cI cC cD) cJ ad1 N1 ad2 A s E1' (mE ad2 cI k n' st' mn' ar') o f' H1 locs1 → lv_has ls1 7 [(0, .ref b), (1, .ref (ad1 0)), (2, .ref (ad2 0)), (3, .ref o), (4, .int (nI i))] → W p l e room_1 s m args below meth c0 H1 locs1 (cells + 1) (slots + 6) Q (F0 m 969 ls1 [])) : W p l e room_1 s m args below meth c0 H locs cells slots Q (F0 m 364 ls []) := by
  subst e1
  have hx := S.1
  have hb := S.2.1
  refine lv_aload_n hx hb dL_law_364 rfl (lv_at hl 1 rfl) ?_
  refine lv_aload_n hx hb dL_law_365 rfl (lv_at hl 0 rfl) ?_
  refine lv_iload hx hb dL_law_366 (lv_at hl 4 rfl) ?_
  refine lv_iconst (v := nI 1) hx hb dL_law_368 (by decide) ?_
  refine lv_iadd hx hb dL_law_369 ?_
  refine nb_ren (y := nI (i + 1)) (nI_add _ _) ?_
  refine lp_ld S lp.2.2.2.2.1 hX hbl hbA hL (i + 1) (by omega) dL_law_370 ?_
  refine lv_aload_n hx hb dL_law_371 rfl (lv_at hl 3 rfl) ?_
  refine lp_callL S lp hW (bw4 bw_377 bw_378 bw_31 bw_379) hdL_lose rfl ⟨by decide, by decide⟩ hl.1 (Nat.le_of_ble_eq_true rfl) hcs (rest := []) rfl dL_law_372 (fun H locs lp => ?_)
  refine lv_istore (lv' := [(5, .int k), (0, .ref b), (1, .ref (ad1 0)), (2, .ref (ad2 0)), (3, .ref o), (4, .int (nI i))]) hx hb dL_law_375 hl (by decide) rfl (fun ls hl => ?_)
  refine lv_aload_n hx hb dL_law_377 rfl (lv_at hl 3 rfl) ?_
  refine lv_aload_n hx hb dL_law_378 rfl (lv_at hl 1 rfl) ?_
  refine lv_iload hx hb dL_law_379 (lv_at hl 5 rfl) ?_
  refine lv_iconst (v := nI 1) hx hb dL_law_381 (by decide) ?_
  refine lv_iadd hx hb dL_law_382 ?_
  refine nb_ren (y := nI (i + 1)) (nI_add _ _) ?_
  refine lp_ld S lp.2.2.2.2.1 hX hbl hbA hL (i + 1) (by omega) dL_law_383 ?_
  refine lp_callM S lp hM (bw5 bw_560 bw_561 bw_562 bw_37 bw_563) (rb_recv lp.wm 0 (by omega) rfl rfl) hdX4_lose rfl hz hR hl.1 (Nat.le_of_ble_eq_true rfl) hcs (rest := []) (st1 := [.int v]) rfl rfl dL_law_384 (fun H locs lp => ?_)
  refine lv_istore (lv' := [(6, .int v), (5, .int k), (0, .ref b), (1, .ref (ad1 0)), (2, .ref (ad2 0)), (3, .ref o), (4, .int (nI i))]) hx hb dL_law_387 hl (by decide) rfl (fun ls hl => ?_)
  refine lv_aload_n hx hb dL_law_389 rfl (lv_at hl 4 rfl) ?_
  refine lp_callM S lp (m_thrown l D cI cC cD ad2 _ _ _ _ _) (bw5 bw_508 bw_509 bw_510 bw_37 bw_511) (rb_recv lp.wm 0 (by omega) rfl rfl) hdX4_thrown rfl ⟨rfl, rfl⟩ ⟨by decide, by decide⟩ hl.1 (Nat.le_of_ble_eq_true rfl) hcs (rest := []) (st1 := [.int k]) rfl rfl dL_law_390 (fun H locs lp => ?_)
  refine lv_iload hx hb dL_law_393 (lv_at hl 1 rfl) ?_
  refine lv_icmp_eq (tgt := 400) hx hb dL_law_395 (by decide) (fun _ => ?_) (fun h9 => absurd rfl h9)
  refine lv_iload hx hb dL_law_400 (lv_at hl 1 rfl) ?_
  refine lv_if_ne (tgt := 417) hx hb dL_law_402 (by decide) (fun hk0 => ?_) (fun hk0 => ?_)
  · refine lv_goto (tgt := 969) hx hb dL_law_417 (by decide) ?_
    exact kk _ _ _ lp (lv_sub hl [2, 3, 4, 5, 6] rfl)
  · refine lv_aload_n hx hb dL_law_405 rfl (lv_at hl 5 rfl) ?_
    refine lv_iconst (v := nI 0) hx hb dL_law_406 (by decide) ?_
    refine lp_lald S lp dL_law_407 ?_
    refine lv_iload hx hb dL_law_408 (lv_at hl 0 rfl) ?_
    refine lv_i2l hx hb dL_law_410 rfl ?_
    refine lv_lcmp0 hx hb (hT hk0) dL_law_411 ?_
    refine lv_if_eq (tgt := 417) hx hb dL_law_412 (by decide) (fun _ => ?_) (fun h9 => absurd rfl h9)
    refine lv_goto (tgt := 969) hx hb dL_law_417 (by decide) ?_
    exact kk _ _ _ lp (lv_sub hl [2, 3, 4, 5, 6] rfl)
set_option maxHeartbeats 4000000 in
set_option maxRecDepth 100000 in
theorem g_twin {p : Program} {l : Launch} {e : Env} {s : State} {m : MethodId} {args : Array Value} {below : List Frame} {meth : Method} {c0 : Code} {H : Heap} {locs : List Loc} {cells slots : Nat} {Q : State → Prop} {ls : Array Slot} {D : va_G} {A : Nat → Prop} {cI cC cD cJ : ClassId} {ad1 ad2 : Nat → Nat} {N1 o b L i : Nat} {xs : Nat → Int32} {E1 E1' : Nat → va_E} {f f' : Nat → Int64} {th st st' : Int32} {n n' mn mn' : Nat} {ar ar' : Nat → Nat → Int32} {rm2 : Room} {k : Int32} {v : Int32} {x1 : Int32} (S : CallFix p m c0 cL_law 7 s args bw "LetterAuctionLaw") (hX : va_X b L xs s s.heap) (hbl : b < s.heap.size) (hbA : ¬ A b) (hL : L ≤ 2050) (hi : i + 3 < L) (hcs : cells + 1 ≤ 601475 ∧ slots + 6 ≤ 7291645) (hl : lv_has ls 7 [(0, .ref b), (1, .ref (ad1 0)), (2, .ref (ad2 0)), (3, .ref o), (4, .int (nI i))]) (e1 : xs (i + 1) = x1) (lp : LPt D (ty3 cI cC cD) cJ ad1 N1 ad2 A s E1 (mE ad2 cI th n st mn ar) o f H locs) (hW : RLc l yL_twin cL_twin 4 [(0, 9, 12, 27), (0, 9, 15, 15)] D (ty3 cI cC cD) cJ [.ref (ad1 0), .int x1, .ref o] ad1 N1 E1 E1' o f f' k) (hT : k = 0 → f' 0 = v.toInt64) (hM : RM l yX4_twin cX4_twin 3 (some .int) rm2 D (ty3 cI cC cD) EN0 [.ref (ad2 0), .int x1] ad2 12 (mE ad2 cI th n st mn ar) (mE ad2 cI k n' st' mn' ar') (some (.int v))) (hz : rm2.cells = 0 ∧ rm2.slots = 0) (hR : rm2.frames + 1 ≤ 11 ∧ 8 + (3 + 11) + rm2.locals ≤ 390) (kk : ∀ (H1 : Heap) (locs1 : List Loc) (ls1 : Array Slot), LPt D (ty3 cI cC cD) cJ ad1 N1 ad2 A s E1' (mE ad2 cI k n' st' mn' ar') o f' H1 locs1 → lv_has ls1 7 [(0, .ref b), (1, .ref (ad1 0)), (2, .ref (ad2 0)), (3, .ref o), (4, .int (nI i))] → W p l e room_1 s m args below meth c0 H1 locs1 (cells + 1) (slots + 6) Q (F0 m 969 ls1 [])) : W p l e room_1 s m args below meth c0 H locs cells slots Q (F0 m 420 ls []) := by
  subst e1
  have hx := S.1
  have hb := S.2.1
  refine lv_aload_n hx hb dL_law_420 rfl (lv_at hl 1 rfl) ?_
  refine lv_aload_n hx hb dL_law_421 rfl (lv_at hl 0 rfl) ?_
  refine lv_iload hx hb dL_law_422 (lv_at hl 4 rfl) ?_
  refine lv_iconst (v := nI 1) hx hb dL_law_424 (by decide) ?_
  refine lv_iadd hx hb dL_law_425 ?_
  refine nb_ren (y := nI (i + 1)) (nI_add _ _) ?_
  refine lp_ld S lp.2.2.2.2.1 hX hbl hbA hL (i + 1) (by omega) dL_law_426 ?_
  refine lv_aload_n hx hb dL_law_427 rfl (lv_at hl 3 rfl) ?_
  refine lp_callL S lp hW (bw4 bw_384 bw_385 bw_31 bw_386) hdL_twin rfl ⟨by decide, by decide⟩ hl.1 (Nat.le_of_ble_eq_true rfl) hcs (rest := []) rfl dL_law_428 (fun H locs lp => ?_)
  refine lv_istore (lv' := [(5, .int k), (0, .ref b), (1, .ref (ad1 0)), (2, .ref (ad2 0)), (3, .ref o), (4, .int (nI i))]) hx hb dL_law_431 hl (by decide) rfl (fun ls hl => ?_)
  refine lv_aload_n hx hb dL_law_433 rfl (lv_at hl 3 rfl) ?_
  refine lv_aload_n hx hb dL_law_434 rfl (lv_at hl 1 rfl) ?_
  refine lv_iload hx hb dL_law_435 (lv_at hl 5 rfl) ?_
  refine lv_iconst (v := nI 1) hx hb dL_law_437 (by decide) ?_
  refine lv_iadd hx hb dL_law_438 ?_
  refine nb_ren (y := nI (i + 1)) (nI_add _ _) ?_
  refine lp_ld S lp.2.2.2.2.1 hX hbl hbA hL (i + 1) (by omega) dL_law_439 ?_
  refine lp_callM S lp hM (bw5 bw_564 bw_565 bw_566 bw_37 bw_567) (rb_recv lp.wm 0 (by omega) rfl rfl) hdX4_twin rfl hz hR hl.1 (Nat.le_of_ble_eq_true rfl) hcs (rest := []) (st1 := [.int v]) rfl rfl dL_law_440 (fun H locs lp => ?_)
  refine lv_istore (lv' := [(6, .int v), (5, .int k), (0, .ref b), (1, .ref (ad1 0)), (2, .ref (ad2 0)), (3, .ref o), (4, .int (nI i))]) hx hb dL_law_443 hl (by decide) rfl (fun ls hl => ?_)
  refine lv_aload_n hx hb dL_law_445 rfl (lv_at hl 4 rfl) ?_
  refine lp_callM S lp (m_thrown l D cI cC cD ad2 _ _ _ _ _) (bw5 bw_508 bw_509 bw_510 bw_37 bw_511) (rb_recv lp.wm 0 (by omega) rfl rfl) hdX4_thrown rfl ⟨rfl, rfl⟩ ⟨by decide, by decide⟩ hl.1 (Nat.le_of_ble_eq_true rfl) hcs (rest := []) (st1 := [.int k]) rfl rfl dL_law_446 (fun H locs lp => ?_)
  refine lv_iload hx hb dL_law_449 (lv_at hl 1 rfl) ?_
  refine lv_icmp_eq (tgt := 456) hx hb dL_law_451 (by decide) (fun _ => ?_) (fun h9 => absurd rfl h9)
  refine lv_iload hx hb dL_law_456 (lv_at hl 1 rfl) ?_
  refine lv_if_ne (tgt := 473) hx hb dL_law_458 (by decide) (fun hk0 => ?_) (fun hk0 => ?_)
  · refine lv_goto (tgt := 969) hx hb dL_law_473 (by decide) ?_
    exact kk _ _ _ lp (lv_sub hl [2, 3, 4, 5, 6] rfl)
  · refine lv_aload_n hx hb dL_law_461 rfl (lv_at hl 5 rfl) ?_
    refine lv_iconst (v := nI 0) hx hb dL_law_462 (by decide) ?_
    refine lp_lald S lp dL_law_463 ?_
    refine lv_iload hx hb dL_law_464 (lv_at hl 0 rfl) ?_
    refine lv_i2l hx hb dL_law_466 rfl ?_
    refine lv_lcmp0 hx hb (hT hk0) dL_law_467 ?_
    refine lv_if_eq (tgt := 473) hx hb dL_law_468 (by decide) (fun _ => ?_) (fun h9 => absurd rfl h9)
    refine lv_goto (tgt := 969) hx hb dL_law_473 (by decide) ?_
    exact kk _ _ _ lp (lv_sub hl [2, 3, 4, 5, 6] rfl)
set_option maxHeartbeats 4000000 in
set_option maxRecDepth 100000 in
theorem g_letters {p : Program} {l : Launch} {e : Env} {s : State} {m : MethodId} {args : Array Value} {below : List Frame} {meth : Method} {c0 : Code} {H : Heap} {locs : List Loc} {cells slots : Nat} {Q : State → Prop} {ls : Array Slot} {D : va_G} {A : Nat → Prop} {cI cC cD cJ : ClassId} {ad1 ad2 : Nat → Nat} {N1 o b L i : Nat} {xs : Nat → Int32} {E1 E1' : Nat → va_E} {f : Nat → Int64} {th st st' : Int32} {n n' mn mn' : Nat} {ar ar' : Nat → Nat → Int32} {rm2 : Room} {k : Int32} {v : Int32} (S : CallFix p m c0 cL_law 7 s args bw "LetterAuctionLaw") (hX : va_X b L xs s s.heap) (hbl : b < s.heap.size) (hbA : ¬ A b) (hL : L ≤ 2050) (hi : i + 3 < L) (hcs : cells + 1 ≤ 601475 ∧ slots + 6 ≤ 7291645) (hl : lv_has ls 7 [(0, .ref b), (1, .ref (ad1 0)), (2, .ref (ad2 0)), (3, .ref o), (4, .int (nI i))]) (lp : LPt D (ty3 cI cC cD) cJ ad1 N1 ad2 A s E1 (mE ad2 cI th n st mn ar) o f H locs) {rmC : Room} (hC : RM l yX3_letters cX3_letters 1 (some .int) rmC D (ty3 cI cC cD) ENC [.ref (ad1 0)] ad1 N1 E1 E1' (some (.int v))) (hzC : rmC.cells = 0 ∧ rmC.slots = 0) (hRC : rmC.frames + 1 ≤ 11 ∧ 8 + (1 + 11) + rmC.locals ≤ 390) {fs : List Value} (hN : 0 < N1) (h0 : E1 0 = .inr (3, fs)) (hM : RM l yX4_letters cX4_letters 1 (some .int) rm2 D (ty3 cI cC cD) EN0 [.ref (ad2 0)] ad2 12 (mE ad2 cI th n st mn ar) (mE ad2 cI k n' st' mn' ar') (some (.int v))) (hz : rm2.cells = 0 ∧ rm2.slots = 0) (hR : rm2.frames + 1 ≤ 11 ∧ 8 + (1 + 11) + rm2.locals ≤ 390) (kk : ∀ (H1 : Heap) (locs1 : List Loc) (ls1 : Array Slot), LPt D (ty3 cI cC cD) cJ ad1 N1 ad2 A s E1' (mE ad2 cI k n' st' mn' ar') o f H1 locs1 → lv_has ls1 7 [(0, .ref b), (1, .ref (ad1 0)), (2, .ref (ad2 0)), (3, .ref o), (4, .int (nI i))] → W p l e room_1 s m args below meth c0 H1 locs1 (cells + 1) (slots + 6) Q (F0 m 969 ls1 [])) : W p l e room_1 s m args below meth c0 H locs cells slots Q (F0 m 476 ls []) := by
  have hx := S.1
  have hb := S.2.1
  refine lv_aload_n hx hb dL_law_476 rfl (lv_at hl 1 rfl) ?_
  refine lp_callC S lp hC (bw5 bw_145 bw_146 bw_147 bw_32 bw_148) (rb_recv lp.wo.wb 0 hN h0 rfl) hdX3_letters rfl hzC hRC hl.1 (Nat.le_of_ble_eq_true rfl) ⟨Nat.le_of_succ_le hcs.1, Nat.le_trans (Nat.le_add_right _ 6) hcs.2⟩ (rest := []) (st1 := [.int v]) rfl rfl dL_law_477 (fun H locs lp => ?_)
  refine lv_aload_n hx hb dL_law_480 rfl (lv_at hl 2 rfl) ?_
  refine lp_callM S lp hM (bw5 bw_568 bw_569 bw_570 bw_37 bw_571) (rb_recv lp.wm 0 (by omega) rfl rfl) hdX4_letters rfl hz hR hl.1 (Nat.le_of_ble_eq_true rfl) ⟨Nat.le_of_succ_le hcs.1, Nat.le_trans (Nat.le_add_right _ 6) hcs.2⟩ (rest := [.int v]) (st1 := [.int v, .int v]) rfl rfl dL_law_481 (fun H locs lp => ?_)
  refine lv_icmp_eq (tgt := 969) hx hb dL_law_484 (by decide) (fun _ => ?_) (fun h9 => absurd rfl h9)
  refine W.widen (k := cells + 1) (n := slots + 6) (by omega) (by omega) ?_
  exact kk _ _ _ lp (lv_sub hl [0, 1, 2, 3, 4] rfl)
set_option maxHeartbeats 4000000 in
set_option maxRecDepth 100000 in
theorem g_letter {p : Program} {l : Launch} {e : Env} {s : State} {m : MethodId} {args : Array Value} {below : List Frame} {meth : Method} {c0 : Code} {H : Heap} {locs : List Loc} {cells slots : Nat} {Q : State → Prop} {ls : Array Slot} {D : va_G} {A : Nat → Prop} {cI cC cD cJ : ClassId} {ad1 ad2 : Nat → Nat} {N1 o b L i : Nat} {xs : Nat → Int32} {E1 E1' : Nat → va_E} {f f' : Nat → Int64} {th st st' : Int32} {n n' mn mn' : Nat} {ar ar' : Nat → Nat → Int32} {rm2 : Room} {k : Int32} {v : Int32} {x1 x2 : Int32} (S : CallFix p m c0 cL_law 7 s args bw "LetterAuctionLaw") (hX : va_X b L xs s s.heap) (hbl : b < s.heap.size) (hbA : ¬ A b) (hL : L ≤ 2050) (hi : i + 3 < L) (hcs : cells + 1 ≤ 601475 ∧ slots + 6 ≤ 7291645) (hl : lv_has ls 7 [(0, .ref b), (1, .ref (ad1 0)), (2, .ref (ad2 0)), (3, .ref o), (4, .int (nI i))]) (e1 : xs (i + 1) = x1) (e2 : xs (i + 2) = x2) (lp : LPt D (ty3 cI cC cD) cJ ad1 N1 ad2 A s E1 (mE ad2 cI th n st mn ar) o f H locs) (hW : RLc l yL_letter cL_letter 5 [(0, 10, 13, 27), (0, 10, 17, 13)] D (ty3 cI cC cD) cJ [.ref (ad1 0), .int x1, .int x2, .ref o] ad1 N1 E1 E1' o f f' k) (hT : k = 0 → f' 0 = v.toInt64) (hM : RM l yX4_letter cX4_letter 3 (some .int) rm2 D (ty3 cI cC cD) EN0 [.ref (ad2 0), .int x1, .int x2] ad2 12 (mE ad2 cI th n st mn ar) (mE ad2 cI k n' st' mn' ar') (some (.int v))) (hz : rm2.cells = 0 ∧ rm2.slots = 0) (hR : rm2.frames + 1 ≤ 11 ∧ 8 + (3 + 11) + rm2.locals ≤ 390) (kk : ∀ (H1 : Heap) (locs1 : List Loc) (ls1 : Array Slot), LPt D (ty3 cI cC cD) cJ ad1 N1 ad2 A s E1' (mE ad2 cI k n' st' mn' ar') o f' H1 locs1 → lv_has ls1 7 [(0, .ref b), (1, .ref (ad1 0)), (2, .ref (ad2 0)), (3, .ref o), (4, .int (nI i))] → W p l e room_1 s m args below meth c0 H1 locs1 (cells + 1) (slots + 6) Q (F0 m 969 ls1 [])) : W p l e room_1 s m args below meth c0 H locs cells slots Q (F0 m 489 ls []) := by
  subst e1
  subst e2
  have hx := S.1
  have hb := S.2.1
  refine lv_aload_n hx hb dL_law_489 rfl (lv_at hl 1 rfl) ?_
  refine lv_aload_n hx hb dL_law_490 rfl (lv_at hl 0 rfl) ?_
  refine lv_iload hx hb dL_law_491 (lv_at hl 4 rfl) ?_
  refine lv_iconst (v := nI 1) hx hb dL_law_493 (by decide) ?_
  refine lv_iadd hx hb dL_law_494 ?_
  refine nb_ren (y := nI (i + 1)) (nI_add _ _) ?_
  refine lp_ld S lp.2.2.2.2.1 hX hbl hbA hL (i + 1) (by omega) dL_law_495 ?_
  refine lv_aload_n hx hb dL_law_496 rfl (lv_at hl 0 rfl) ?_
  refine lv_iload hx hb dL_law_497 (lv_at hl 4 rfl) ?_
  refine lv_iconst (v := nI 2) hx hb dL_law_499 (by decide) ?_
  refine lv_iadd hx hb dL_law_500 ?_
  refine nb_ren (y := nI (i + 2)) (nI_add _ _) ?_
  refine lp_ld S lp.2.2.2.2.1 hX hbl hbA hL (i + 2) (by omega) dL_law_501 ?_
  refine lv_aload_n hx hb dL_law_502 rfl (lv_at hl 3 rfl) ?_
  refine lp_callL S lp hW (bw4 bw_391 bw_392 bw_31 bw_393) hdL_letter rfl ⟨by decide, by decide⟩ hl.1 (Nat.le_of_ble_eq_true rfl) hcs (rest := []) rfl dL_law_503 (fun H locs lp => ?_)
  refine lv_istore (lv' := [(5, .int k), (0, .ref b), (1, .ref (ad1 0)), (2, .ref (ad2 0)), (3, .ref o), (4, .int (nI i))]) hx hb dL_law_506 hl (by decide) rfl (fun ls hl => ?_)
  refine lv_aload_n hx hb dL_law_508 rfl (lv_at hl 3 rfl) ?_
  refine lv_aload_n hx hb dL_law_509 rfl (lv_at hl 1 rfl) ?_
  refine lv_iload hx hb dL_law_510 (lv_at hl 5 rfl) ?_
  refine lv_iconst (v := nI 1) hx hb dL_law_512 (by decide) ?_
  refine lv_iadd hx hb dL_law_513 ?_
  refine nb_ren (y := nI (i + 1)) (nI_add _ _) ?_
  refine lp_ld S lp.2.2.2.2.1 hX hbl hbA hL (i + 1) (by omega) dL_law_514 ?_
  refine lv_aload_n hx hb dL_law_515 rfl (lv_at hl 1 rfl) ?_
  refine lv_iload hx hb dL_law_516 (lv_at hl 5 rfl) ?_
  refine lv_iconst (v := nI 2) hx hb dL_law_518 (by decide) ?_
  refine lv_iadd hx hb dL_law_519 ?_
  refine nb_ren (y := nI (i + 2)) (nI_add _ _) ?_
  refine lp_ld S lp.2.2.2.2.1 hX hbl hbA hL (i + 2) (by omega) dL_law_520 ?_
  refine lp_callM S lp hM (bw5 bw_572 bw_573 bw_574 bw_37 bw_575) (rb_recv lp.wm 0 (by omega) rfl rfl) hdX4_letter rfl hz hR hl.1 (Nat.le_of_ble_eq_true rfl) hcs (rest := []) (st1 := [.int v]) rfl rfl dL_law_521 (fun H locs lp => ?_)
  refine lv_istore (lv' := [(6, .int v), (5, .int k), (0, .ref b), (1, .ref (ad1 0)), (2, .ref (ad2 0)), (3, .ref o), (4, .int (nI i))]) hx hb dL_law_524 hl (by decide) rfl (fun ls hl => ?_)
  refine lv_aload_n hx hb dL_law_526 rfl (lv_at hl 4 rfl) ?_
  refine lp_callM S lp (m_thrown l D cI cC cD ad2 _ _ _ _ _) (bw5 bw_508 bw_509 bw_510 bw_37 bw_511) (rb_recv lp.wm 0 (by omega) rfl rfl) hdX4_thrown rfl ⟨rfl, rfl⟩ ⟨by decide, by decide⟩ hl.1 (Nat.le_of_ble_eq_true rfl) hcs (rest := []) (st1 := [.int k]) rfl rfl dL_law_527 (fun H locs lp => ?_)
  refine lv_iload hx hb dL_law_530 (lv_at hl 1 rfl) ?_
  refine lv_icmp_eq (tgt := 537) hx hb dL_law_532 (by decide) (fun _ => ?_) (fun h9 => absurd rfl h9)
  refine lv_iload hx hb dL_law_537 (lv_at hl 1 rfl) ?_
  refine lv_if_ne (tgt := 554) hx hb dL_law_539 (by decide) (fun hk0 => ?_) (fun hk0 => ?_)
  · refine lv_goto (tgt := 969) hx hb dL_law_554 (by decide) ?_
    exact kk _ _ _ lp (lv_sub hl [2, 3, 4, 5, 6] rfl)
  · refine lv_aload_n hx hb dL_law_542 rfl (lv_at hl 5 rfl) ?_
    refine lv_iconst (v := nI 0) hx hb dL_law_543 (by decide) ?_
    refine lp_lald S lp dL_law_544 ?_
    refine lv_iload hx hb dL_law_545 (lv_at hl 0 rfl) ?_
    refine lv_i2l hx hb dL_law_547 rfl ?_
    refine lv_lcmp0 hx hb (hT hk0) dL_law_548 ?_
    refine lv_if_eq (tgt := 554) hx hb dL_law_549 (by decide) (fun _ => ?_) (fun h9 => absurd rfl h9)
    refine lv_goto (tgt := 969) hx hb dL_law_554 (by decide) ?_
    exact kk _ _ _ lp (lv_sub hl [2, 3, 4, 5, 6] rfl)
set_option maxHeartbeats 4000000 in
set_option maxRecDepth 100000 in
theorem g_crew {p : Program} {l : Launch} {e : Env} {s : State} {m : MethodId} {args : Array Value} {below : List Frame} {meth : Method} {c0 : Code} {H : Heap} {locs : List Loc} {cells slots : Nat} {Q : State → Prop} {ls : Array Slot} {D : va_G} {A : Nat → Prop} {cI cC cD cJ : ClassId} {ad1 ad2 : Nat → Nat} {N1 o b L i : Nat} {xs : Nat → Int32} {E1 E1' : Nat → va_E} {f f' : Nat → Int64} {th st st' : Int32} {n n' mn mn' : Nat} {ar ar' : Nat → Nat → Int32} {rm2 : Room} {k : Int32} {v : Int32} {x1 x2 : Int32} (S : CallFix p m c0 cL_law 7 s args bw "LetterAuctionLaw") (hX : va_X b L xs s s.heap) (hbl : b < s.heap.size) (hbA : ¬ A b) (hL : L ≤ 2050) (hi : i + 3 < L) (hcs : cells + 1 ≤ 601475 ∧ slots + 6 ≤ 7291645) (hl : lv_has ls 7 [(0, .ref b), (1, .ref (ad1 0)), (2, .ref (ad2 0)), (3, .ref o), (4, .int (nI i))]) (e1 : xs (i + 1) = x1) (e2 : xs (i + 2) = x2) (lp : LPt D (ty3 cI cC cD) cJ ad1 N1 ad2 A s E1 (mE ad2 cI th n st mn ar) o f H locs) (hW : RLc l yL_crew cL_crew 5 [(0, 10, 13, 13)] D (ty3 cI cC cD) cJ [.ref (ad1 0), .int x1, .int x2, .ref o] ad1 N1 E1 E1' o f f' k) (hT : k = 0 → f' 0 = v.toInt64) (hM : RM l yX4_crew cX4_crew 3 (some .int) rm2 D (ty3 cI cC cD) EN0 [.ref (ad2 0), .int x1, .int x2] ad2 12 (mE ad2 cI th n st mn ar) (mE ad2 cI k n' st' mn' ar') (some (.int v))) (hz : rm2.cells = 0 ∧ rm2.slots = 0) (hR : rm2.frames + 1 ≤ 11 ∧ 8 + (3 + 11) + rm2.locals ≤ 390) (kk : ∀ (H1 : Heap) (locs1 : List Loc) (ls1 : Array Slot), LPt D (ty3 cI cC cD) cJ ad1 N1 ad2 A s E1' (mE ad2 cI k n' st' mn' ar') o f' H1 locs1 → lv_has ls1 7 [(0, .ref b), (1, .ref (ad1 0)), (2, .ref (ad2 0)), (3, .ref o), (4, .int (nI i))] → W p l e room_1 s m args below meth c0 H1 locs1 (cells + 1) (slots + 6) Q (F0 m 969 ls1 [])) : W p l e room_1 s m args below meth c0 H locs cells slots Q (F0 m 557 ls []) := by
  subst e1
  subst e2
  have hx := S.1
  have hb := S.2.1
  refine lv_aload_n hx hb dL_law_557 rfl (lv_at hl 1 rfl) ?_
  refine lv_aload_n hx hb dL_law_558 rfl (lv_at hl 0 rfl) ?_
  refine lv_iload hx hb dL_law_559 (lv_at hl 4 rfl) ?_
  refine lv_iconst (v := nI 1) hx hb dL_law_561 (by decide) ?_
  refine lv_iadd hx hb dL_law_562 ?_
  refine nb_ren (y := nI (i + 1)) (nI_add _ _) ?_
  refine lp_ld S lp.2.2.2.2.1 hX hbl hbA hL (i + 1) (by omega) dL_law_563 ?_
  refine lv_aload_n hx hb dL_law_564 rfl (lv_at hl 0 rfl) ?_
  refine lv_iload hx hb dL_law_565 (lv_at hl 4 rfl) ?_
  refine lv_iconst (v := nI 2) hx hb dL_law_567 (by decide) ?_
  refine lv_iadd hx hb dL_law_568 ?_
  refine nb_ren (y := nI (i + 2)) (nI_add _ _) ?_
  refine lp_ld S lp.2.2.2.2.1 hX hbl hbA hL (i + 2) (by omega) dL_law_569 ?_
  refine lv_aload_n hx hb dL_law_570 rfl (lv_at hl 3 rfl) ?_
  refine lp_callL S lp hW (bw4 bw_398 bw_399 bw_31 bw_400) hdL_crew rfl ⟨by decide, by decide⟩ hl.1 (Nat.le_of_ble_eq_true rfl) hcs (rest := []) rfl dL_law_571 (fun H locs lp => ?_)
  refine lv_istore (lv' := [(5, .int k), (0, .ref b), (1, .ref (ad1 0)), (2, .ref (ad2 0)), (3, .ref o), (4, .int (nI i))]) hx hb dL_law_574 hl (by decide) rfl (fun ls hl => ?_)
  refine lv_aload_n hx hb dL_law_576 rfl (lv_at hl 3 rfl) ?_
  refine lv_aload_n hx hb dL_law_577 rfl (lv_at hl 1 rfl) ?_
  refine lv_iload hx hb dL_law_578 (lv_at hl 5 rfl) ?_
  refine lv_iconst (v := nI 1) hx hb dL_law_580 (by decide) ?_
  refine lv_iadd hx hb dL_law_581 ?_
  refine nb_ren (y := nI (i + 1)) (nI_add _ _) ?_
  refine lp_ld S lp.2.2.2.2.1 hX hbl hbA hL (i + 1) (by omega) dL_law_582 ?_
  refine lv_aload_n hx hb dL_law_583 rfl (lv_at hl 1 rfl) ?_
  refine lv_iload hx hb dL_law_584 (lv_at hl 5 rfl) ?_
  refine lv_iconst (v := nI 2) hx hb dL_law_586 (by decide) ?_
  refine lv_iadd hx hb dL_law_587 ?_
  refine nb_ren (y := nI (i + 2)) (nI_add _ _) ?_
  refine lp_ld S lp.2.2.2.2.1 hX hbl hbA hL (i + 2) (by omega) dL_law_588 ?_
  refine lp_callM S lp hM (bw5 bw_576 bw_577 bw_578 bw_37 bw_579) (rb_recv lp.wm 0 (by omega) rfl rfl) hdX4_crew rfl hz hR hl.1 (Nat.le_of_ble_eq_true rfl) hcs (rest := []) (st1 := [.int v]) rfl rfl dL_law_589 (fun H locs lp => ?_)
  refine lv_istore (lv' := [(6, .int v), (5, .int k), (0, .ref b), (1, .ref (ad1 0)), (2, .ref (ad2 0)), (3, .ref o), (4, .int (nI i))]) hx hb dL_law_592 hl (by decide) rfl (fun ls hl => ?_)
  refine lv_aload_n hx hb dL_law_594 rfl (lv_at hl 4 rfl) ?_
  refine lp_callM S lp (m_thrown l D cI cC cD ad2 _ _ _ _ _) (bw5 bw_508 bw_509 bw_510 bw_37 bw_511) (rb_recv lp.wm 0 (by omega) rfl rfl) hdX4_thrown rfl ⟨rfl, rfl⟩ ⟨by decide, by decide⟩ hl.1 (Nat.le_of_ble_eq_true rfl) hcs (rest := []) (st1 := [.int k]) rfl rfl dL_law_595 (fun H locs lp => ?_)
  refine lv_iload hx hb dL_law_598 (lv_at hl 1 rfl) ?_
  refine lv_icmp_eq (tgt := 605) hx hb dL_law_600 (by decide) (fun _ => ?_) (fun h9 => absurd rfl h9)
  refine lv_iload hx hb dL_law_605 (lv_at hl 1 rfl) ?_
  refine lv_if_ne (tgt := 622) hx hb dL_law_607 (by decide) (fun hk0 => ?_) (fun hk0 => ?_)
  · refine lv_goto (tgt := 969) hx hb dL_law_622 (by decide) ?_
    exact kk _ _ _ lp (lv_sub hl [2, 3, 4, 5, 6] rfl)
  · refine lv_aload_n hx hb dL_law_610 rfl (lv_at hl 5 rfl) ?_
    refine lv_iconst (v := nI 0) hx hb dL_law_611 (by decide) ?_
    refine lp_lald S lp dL_law_612 ?_
    refine lv_iload hx hb dL_law_613 (lv_at hl 0 rfl) ?_
    refine lv_i2l hx hb dL_law_615 rfl ?_
    refine lv_lcmp0 hx hb (hT hk0) dL_law_616 ?_
    refine lv_if_eq (tgt := 622) hx hb dL_law_617 (by decide) (fun _ => ?_) (fun h9 => absurd rfl h9)
    refine lv_goto (tgt := 969) hx hb dL_law_622 (by decide) ?_
    exact kk _ _ _ lp (lv_sub hl [2, 3, 4, 5, 6] rfl)
set_option maxHeartbeats 4000000 in
set_option maxRecDepth 100000 in
theorem g_known {p : Program} {l : Launch} {e : Env} {s : State} {m : MethodId} {args : Array Value} {below : List Frame} {meth : Method} {c0 : Code} {H : Heap} {locs : List Loc} {cells slots : Nat} {Q : State → Prop} {ls : Array Slot} {D : va_G} {A : Nat → Prop} {cI cC cD cJ : ClassId} {ad1 ad2 : Nat → Nat} {N1 o b L i : Nat} {xs : Nat → Int32} {E1 E1' : Nat → va_E} {f f' : Nat → Int64} {th st st' : Int32} {n n' mn mn' : Nat} {ar ar' : Nat → Nat → Int32} {rm2 : Room} {k : Int32} {v : Int32} {x1 x2 : Int32} (S : CallFix p m c0 cL_law 7 s args bw "LetterAuctionLaw") (hX : va_X b L xs s s.heap) (hbl : b < s.heap.size) (hbA : ¬ A b) (hL : L ≤ 2050) (hi : i + 3 < L) (hcs : cells + 1 ≤ 601475 ∧ slots + 6 ≤ 7291645) (hl : lv_has ls 7 [(0, .ref b), (1, .ref (ad1 0)), (2, .ref (ad2 0)), (3, .ref o), (4, .int (nI i))]) (e1 : xs (i + 1) = x1) (e2 : xs (i + 2) = x2) (lp : LPt D (ty3 cI cC cD) cJ ad1 N1 ad2 A s E1 (mE ad2 cI th n st mn ar) o f H locs) (hW : RLc l yL_known cL_known 5 [(0, 10, 13, 13)] D (ty3 cI cC cD) cJ [.ref (ad1 0), .int x1, .int x2, .ref o] ad1 N1 E1 E1' o f f' k) (hT : k = 0 → f' 0 = v.toInt64) (hM : RM l yX4_known cX4_known 3 (some .int) rm2 D (ty3 cI cC cD) EN0 [.ref (ad2 0), .int x1, .int x2] ad2 12 (mE ad2 cI th n st mn ar) (mE ad2 cI k n' st' mn' ar') (some (.int v))) (hz : rm2.cells = 0 ∧ rm2.slots = 0) (hR : rm2.frames + 1 ≤ 11 ∧ 8 + (3 + 11) + rm2.locals ≤ 390) (kk : ∀ (H1 : Heap) (locs1 : List Loc) (ls1 : Array Slot), LPt D (ty3 cI cC cD) cJ ad1 N1 ad2 A s E1' (mE ad2 cI k n' st' mn' ar') o f' H1 locs1 → lv_has ls1 7 [(0, .ref b), (1, .ref (ad1 0)), (2, .ref (ad2 0)), (3, .ref o), (4, .int (nI i))] → W p l e room_1 s m args below meth c0 H1 locs1 (cells + 1) (slots + 6) Q (F0 m 969 ls1 [])) : W p l e room_1 s m args below meth c0 H locs cells slots Q (F0 m 625 ls []) := by
  subst e1
  subst e2
  have hx := S.1
  have hb := S.2.1
  refine lv_aload_n hx hb dL_law_625 rfl (lv_at hl 1 rfl) ?_
  refine lv_aload_n hx hb dL_law_626 rfl (lv_at hl 0 rfl) ?_
  refine lv_iload hx hb dL_law_627 (lv_at hl 4 rfl) ?_
  refine lv_iconst (v := nI 1) hx hb dL_law_629 (by decide) ?_
  refine lv_iadd hx hb dL_law_630 ?_
  refine nb_ren (y := nI (i + 1)) (nI_add _ _) ?_
  refine lp_ld S lp.2.2.2.2.1 hX hbl hbA hL (i + 1) (by omega) dL_law_631 ?_
  refine lv_aload_n hx hb dL_law_632 rfl (lv_at hl 0 rfl) ?_
  refine lv_iload hx hb dL_law_633 (lv_at hl 4 rfl) ?_
  refine lv_iconst (v := nI 2) hx hb dL_law_635 (by decide) ?_
  refine lv_iadd hx hb dL_law_636 ?_
  refine nb_ren (y := nI (i + 2)) (nI_add _ _) ?_
  refine lp_ld S lp.2.2.2.2.1 hX hbl hbA hL (i + 2) (by omega) dL_law_637 ?_
  refine lv_aload_n hx hb dL_law_638 rfl (lv_at hl 3 rfl) ?_
  refine lp_callL S lp hW (bw4 bw_410 bw_411 bw_31 bw_412) hdL_known rfl ⟨by decide, by decide⟩ hl.1 (Nat.le_of_ble_eq_true rfl) hcs (rest := []) rfl dL_law_639 (fun H locs lp => ?_)
  refine lv_istore (lv' := [(5, .int k), (0, .ref b), (1, .ref (ad1 0)), (2, .ref (ad2 0)), (3, .ref o), (4, .int (nI i))]) hx hb dL_law_642 hl (by decide) rfl (fun ls hl => ?_)
  refine lv_aload_n hx hb dL_law_644 rfl (lv_at hl 3 rfl) ?_
  refine lv_aload_n hx hb dL_law_645 rfl (lv_at hl 1 rfl) ?_
  refine lv_iload hx hb dL_law_646 (lv_at hl 5 rfl) ?_
  refine lv_iconst (v := nI 1) hx hb dL_law_648 (by decide) ?_
  refine lv_iadd hx hb dL_law_649 ?_
  refine nb_ren (y := nI (i + 1)) (nI_add _ _) ?_
  refine lp_ld S lp.2.2.2.2.1 hX hbl hbA hL (i + 1) (by omega) dL_law_650 ?_
  refine lv_aload_n hx hb dL_law_651 rfl (lv_at hl 1 rfl) ?_
  refine lv_iload hx hb dL_law_652 (lv_at hl 5 rfl) ?_
  refine lv_iconst (v := nI 2) hx hb dL_law_654 (by decide) ?_
  refine lv_iadd hx hb dL_law_655 ?_
  refine nb_ren (y := nI (i + 2)) (nI_add _ _) ?_
  refine lp_ld S lp.2.2.2.2.1 hX hbl hbA hL (i + 2) (by omega) dL_law_656 ?_
  refine lp_callM S lp hM (bw5 bw_584 bw_585 bw_586 bw_37 bw_587) (rb_recv lp.wm 0 (by omega) rfl rfl) hdX4_known rfl hz hR hl.1 (Nat.le_of_ble_eq_true rfl) hcs (rest := []) (st1 := [.int v]) rfl rfl dL_law_657 (fun H locs lp => ?_)
  refine lv_istore (lv' := [(6, .int v), (5, .int k), (0, .ref b), (1, .ref (ad1 0)), (2, .ref (ad2 0)), (3, .ref o), (4, .int (nI i))]) hx hb dL_law_660 hl (by decide) rfl (fun ls hl => ?_)
  refine lv_aload_n hx hb dL_law_662 rfl (lv_at hl 4 rfl) ?_
  refine lp_callM S lp (m_thrown l D cI cC cD ad2 _ _ _ _ _) (bw5 bw_508 bw_509 bw_510 bw_37 bw_511) (rb_recv lp.wm 0 (by omega) rfl rfl) hdX4_thrown rfl ⟨rfl, rfl⟩ ⟨by decide, by decide⟩ hl.1 (Nat.le_of_ble_eq_true rfl) hcs (rest := []) (st1 := [.int k]) rfl rfl dL_law_663 (fun H locs lp => ?_)
  refine lv_iload hx hb dL_law_666 (lv_at hl 1 rfl) ?_
  refine lv_icmp_eq (tgt := 673) hx hb dL_law_668 (by decide) (fun _ => ?_) (fun h9 => absurd rfl h9)
  refine lv_iload hx hb dL_law_673 (lv_at hl 1 rfl) ?_
  refine lv_if_ne (tgt := 690) hx hb dL_law_675 (by decide) (fun hk0 => ?_) (fun hk0 => ?_)
  · refine lv_goto (tgt := 969) hx hb dL_law_690 (by decide) ?_
    exact kk _ _ _ lp (lv_sub hl [2, 3, 4, 5, 6] rfl)
  · refine lv_aload_n hx hb dL_law_678 rfl (lv_at hl 5 rfl) ?_
    refine lv_iconst (v := nI 0) hx hb dL_law_679 (by decide) ?_
    refine lp_lald S lp dL_law_680 ?_
    refine lv_iload hx hb dL_law_681 (lv_at hl 0 rfl) ?_
    refine lv_i2l hx hb dL_law_683 rfl ?_
    refine lv_lcmp0 hx hb (hT hk0) dL_law_684 ?_
    refine lv_if_eq (tgt := 690) hx hb dL_law_685 (by decide) (fun _ => ?_) (fun h9 => absurd rfl h9)
    refine lv_goto (tgt := 969) hx hb dL_law_690 (by decide) ?_
    exact kk _ _ _ lp (lv_sub hl [2, 3, 4, 5, 6] rfl)
set_option maxHeartbeats 4000000 in
set_option maxRecDepth 100000 in
theorem g_desk {p : Program} {l : Launch} {e : Env} {s : State} {m : MethodId} {args : Array Value} {below : List Frame} {meth : Method} {c0 : Code} {H : Heap} {locs : List Loc} {cells slots : Nat} {Q : State → Prop} {ls : Array Slot} {D : va_G} {A : Nat → Prop} {cI cC cD cJ : ClassId} {ad1 ad2 : Nat → Nat} {N1 o b L i : Nat} {xs : Nat → Int32} {E1 E1' : Nat → va_E} {f f' : Nat → Int64} {th st st' : Int32} {n n' mn mn' : Nat} {ar ar' : Nat → Nat → Int32} {rm2 : Room} {k : Int32} {v : Int32} {x1 x2 : Int32} (S : CallFix p m c0 cL_law 7 s args bw "LetterAuctionLaw") (hX : va_X b L xs s s.heap) (hbl : b < s.heap.size) (hbA : ¬ A b) (hL : L ≤ 2050) (hi : i + 3 < L) (hcs : cells + 1 ≤ 601475 ∧ slots + 6 ≤ 7291645) (hl : lv_has ls 7 [(0, .ref b), (1, .ref (ad1 0)), (2, .ref (ad2 0)), (3, .ref o), (4, .int (nI i))]) (e1 : xs (i + 1) = x1) (e2 : xs (i + 2) = x2) (lp : LPt D (ty3 cI cC cD) cJ ad1 N1 ad2 A s E1 (mE ad2 cI th n st mn ar) o f H locs) (hW : RLc l yL_desk cL_desk 5 [(0, 10, 13, 13)] D (ty3 cI cC cD) cJ [.ref (ad1 0), .int x1, .int x2, .ref o] ad1 N1 E1 E1' o f f' k) (hT : k = 0 → f' 0 = v.toInt64) (hM : RM l yX4_desk cX4_desk 3 (some .int) rm2 D (ty3 cI cC cD) EN0 [.ref (ad2 0), .int x1, .int x2] ad2 12 (mE ad2 cI th n st mn ar) (mE ad2 cI k n' st' mn' ar') (some (.int v))) (hz : rm2.cells = 0 ∧ rm2.slots = 0) (hR : rm2.frames + 1 ≤ 11 ∧ 8 + (3 + 11) + rm2.locals ≤ 390) (kk : ∀ (H1 : Heap) (locs1 : List Loc) (ls1 : Array Slot), LPt D (ty3 cI cC cD) cJ ad1 N1 ad2 A s E1' (mE ad2 cI k n' st' mn' ar') o f' H1 locs1 → lv_has ls1 7 [(0, .ref b), (1, .ref (ad1 0)), (2, .ref (ad2 0)), (3, .ref o), (4, .int (nI i))] → W p l e room_1 s m args below meth c0 H1 locs1 (cells + 1) (slots + 6) Q (F0 m 969 ls1 [])) : W p l e room_1 s m args below meth c0 H locs cells slots Q (F0 m 693 ls []) := by
  subst e1
  subst e2
  have hx := S.1
  have hb := S.2.1
  refine lv_aload_n hx hb dL_law_693 rfl (lv_at hl 1 rfl) ?_
  refine lv_aload_n hx hb dL_law_694 rfl (lv_at hl 0 rfl) ?_
  refine lv_iload hx hb dL_law_695 (lv_at hl 4 rfl) ?_
  refine lv_iconst (v := nI 1) hx hb dL_law_697 (by decide) ?_
  refine lv_iadd hx hb dL_law_698 ?_
  refine nb_ren (y := nI (i + 1)) (nI_add _ _) ?_
  refine lp_ld S lp.2.2.2.2.1 hX hbl hbA hL (i + 1) (by omega) dL_law_699 ?_
  refine lv_aload_n hx hb dL_law_700 rfl (lv_at hl 0 rfl) ?_
  refine lv_iload hx hb dL_law_701 (lv_at hl 4 rfl) ?_
  refine lv_iconst (v := nI 2) hx hb dL_law_703 (by decide) ?_
  refine lv_iadd hx hb dL_law_704 ?_
  refine nb_ren (y := nI (i + 2)) (nI_add _ _) ?_
  refine lp_ld S lp.2.2.2.2.1 hX hbl hbA hL (i + 2) (by omega) dL_law_705 ?_
  refine lv_aload_n hx hb dL_law_706 rfl (lv_at hl 3 rfl) ?_
  refine lp_callL S lp hW (bw4 bw_417 bw_418 bw_31 bw_419) hdL_desk rfl ⟨by decide, by decide⟩ hl.1 (Nat.le_of_ble_eq_true rfl) hcs (rest := []) rfl dL_law_707 (fun H locs lp => ?_)
  refine lv_istore (lv' := [(5, .int k), (0, .ref b), (1, .ref (ad1 0)), (2, .ref (ad2 0)), (3, .ref o), (4, .int (nI i))]) hx hb dL_law_710 hl (by decide) rfl (fun ls hl => ?_)
  refine lv_aload_n hx hb dL_law_712 rfl (lv_at hl 3 rfl) ?_
  refine lv_aload_n hx hb dL_law_713 rfl (lv_at hl 1 rfl) ?_
  refine lv_iload hx hb dL_law_714 (lv_at hl 5 rfl) ?_
  refine lv_iconst (v := nI 1) hx hb dL_law_716 (by decide) ?_
  refine lv_iadd hx hb dL_law_717 ?_
  refine nb_ren (y := nI (i + 1)) (nI_add _ _) ?_
  refine lp_ld S lp.2.2.2.2.1 hX hbl hbA hL (i + 1) (by omega) dL_law_718 ?_
  refine lv_aload_n hx hb dL_law_719 rfl (lv_at hl 1 rfl) ?_
  refine lv_iload hx hb dL_law_720 (lv_at hl 5 rfl) ?_
  refine lv_iconst (v := nI 2) hx hb dL_law_722 (by decide) ?_
  refine lv_iadd hx hb dL_law_723 ?_
  refine nb_ren (y := nI (i + 2)) (nI_add _ _) ?_
  refine lp_ld S lp.2.2.2.2.1 hX hbl hbA hL (i + 2) (by omega) dL_law_724 ?_
  refine lp_callM S lp hM (bw5 bw_588 bw_589 bw_590 bw_37 bw_591) (rb_recv lp.wm 0 (by omega) rfl rfl) hdX4_desk rfl hz hR hl.1 (Nat.le_of_ble_eq_true rfl) hcs (rest := []) (st1 := [.int v]) rfl rfl dL_law_725 (fun H locs lp => ?_)
  refine lv_istore (lv' := [(6, .int v), (5, .int k), (0, .ref b), (1, .ref (ad1 0)), (2, .ref (ad2 0)), (3, .ref o), (4, .int (nI i))]) hx hb dL_law_728 hl (by decide) rfl (fun ls hl => ?_)
  refine lv_aload_n hx hb dL_law_730 rfl (lv_at hl 4 rfl) ?_
  refine lp_callM S lp (m_thrown l D cI cC cD ad2 _ _ _ _ _) (bw5 bw_508 bw_509 bw_510 bw_37 bw_511) (rb_recv lp.wm 0 (by omega) rfl rfl) hdX4_thrown rfl ⟨rfl, rfl⟩ ⟨by decide, by decide⟩ hl.1 (Nat.le_of_ble_eq_true rfl) hcs (rest := []) (st1 := [.int k]) rfl rfl dL_law_731 (fun H locs lp => ?_)
  refine lv_iload hx hb dL_law_734 (lv_at hl 1 rfl) ?_
  refine lv_icmp_eq (tgt := 741) hx hb dL_law_736 (by decide) (fun _ => ?_) (fun h9 => absurd rfl h9)
  refine lv_iload hx hb dL_law_741 (lv_at hl 1 rfl) ?_
  refine lv_if_ne (tgt := 758) hx hb dL_law_743 (by decide) (fun hk0 => ?_) (fun hk0 => ?_)
  · refine lv_goto (tgt := 969) hx hb dL_law_758 (by decide) ?_
    exact kk _ _ _ lp (lv_sub hl [2, 3, 4, 5, 6] rfl)
  · refine lv_aload_n hx hb dL_law_746 rfl (lv_at hl 5 rfl) ?_
    refine lv_iconst (v := nI 0) hx hb dL_law_747 (by decide) ?_
    refine lp_lald S lp dL_law_748 ?_
    refine lv_iload hx hb dL_law_749 (lv_at hl 0 rfl) ?_
    refine lv_i2l hx hb dL_law_751 rfl ?_
    refine lv_lcmp0 hx hb (hT hk0) dL_law_752 ?_
    refine lv_if_eq (tgt := 758) hx hb dL_law_753 (by decide) (fun _ => ?_) (fun h9 => absurd rfl h9)
    refine lv_goto (tgt := 969) hx hb dL_law_758 (by decide) ?_
    exact kk _ _ _ lp (lv_sub hl [2, 3, 4, 5, 6] rfl)
set_option maxHeartbeats 4000000 in
set_option maxRecDepth 100000 in
theorem g_settled {p : Program} {l : Launch} {e : Env} {s : State} {m : MethodId} {args : Array Value} {below : List Frame} {meth : Method} {c0 : Code} {H : Heap} {locs : List Loc} {cells slots : Nat} {Q : State → Prop} {ls : Array Slot} {D : va_G} {A : Nat → Prop} {cI cC cD cJ : ClassId} {ad1 ad2 : Nat → Nat} {N1 o b L i : Nat} {xs : Nat → Int32} {E1 E1' : Nat → va_E} {f : Nat → Int64} {th st st' : Int32} {n n' mn mn' : Nat} {ar ar' : Nat → Nat → Int32} {rm2 : Room} {k : Int32} {v : Int32} (S : CallFix p m c0 cL_law 7 s args bw "LetterAuctionLaw") (hX : va_X b L xs s s.heap) (hbl : b < s.heap.size) (hbA : ¬ A b) (hL : L ≤ 2050) (hi : i + 3 < L) (hcs : cells + 1 ≤ 601475 ∧ slots + 6 ≤ 7291645) (hl : lv_has ls 7 [(0, .ref b), (1, .ref (ad1 0)), (2, .ref (ad2 0)), (3, .ref o), (4, .int (nI i))]) (lp : LPt D (ty3 cI cC cD) cJ ad1 N1 ad2 A s E1 (mE ad2 cI th n st mn ar) o f H locs) {rmC : Room} (hC : RM l yX3_settled cX3_settled 3 (some .boolean) rmC D (ty3 cI cC cD) ENC [.ref (ad1 0)] ad1 N1 E1 E1' (some (.int v))) (hzC : rmC.cells = 0 ∧ rmC.slots = 0) (hRC : rmC.frames + 1 ≤ 11 ∧ 8 + (3 + 11) + rmC.locals ≤ 390) {fs : List Value} (hN : 0 < N1) (h0 : E1 0 = .inr (3, fs)) (hM : RM l yX4_settled cX4_settled 1 (some .boolean) rm2 D (ty3 cI cC cD) EN0 [.ref (ad2 0)] ad2 12 (mE ad2 cI th n st mn ar) (mE ad2 cI k n' st' mn' ar') (some (.int v))) (hz : rm2.cells = 0 ∧ rm2.slots = 0) (hR : rm2.frames + 1 ≤ 11 ∧ 8 + (1 + 11) + rm2.locals ≤ 390) (kk : ∀ (H1 : Heap) (locs1 : List Loc) (ls1 : Array Slot), LPt D (ty3 cI cC cD) cJ ad1 N1 ad2 A s E1' (mE ad2 cI k n' st' mn' ar') o f H1 locs1 → lv_has ls1 7 [(0, .ref b), (1, .ref (ad1 0)), (2, .ref (ad2 0)), (3, .ref o), (4, .int (nI i))] → W p l e room_1 s m args below meth c0 H1 locs1 (cells + 1) (slots + 6) Q (F0 m 969 ls1 [])) : W p l e room_1 s m args below meth c0 H locs cells slots Q (F0 m 761 ls []) := by
  have hx := S.1
  have hb := S.2.1
  refine lv_aload_n hx hb dL_law_761 rfl (lv_at hl 1 rfl) ?_
  refine lp_callC S lp hC (bw5 bw_149 bw_150 bw_151 bw_32 bw_152) (rb_recv lp.wo.wb 0 hN h0 rfl) hdX3_settled rfl hzC hRC hl.1 (Nat.le_of_ble_eq_true rfl) ⟨Nat.le_of_succ_le hcs.1, Nat.le_trans (Nat.le_add_right _ 6) hcs.2⟩ (rest := []) (st1 := [.int v]) rfl rfl dL_law_762 (fun H locs lp => ?_)
  refine lv_aload_n hx hb dL_law_765 rfl (lv_at hl 2 rfl) ?_
  refine lp_callM S lp hM (bw5 bw_592 bw_593 bw_594 bw_37 bw_595) (rb_recv lp.wm 0 (by omega) rfl rfl) hdX4_settled rfl hz hR hl.1 (Nat.le_of_ble_eq_true rfl) ⟨Nat.le_of_succ_le hcs.1, Nat.le_trans (Nat.le_add_right _ 6) hcs.2⟩ (rest := [.int v]) (st1 := [.int v, .int v]) rfl rfl dL_law_766 (fun H locs lp => ?_)
  refine lv_icmp_eq (tgt := 969) hx hb dL_law_769 (by decide) (fun _ => ?_) (fun h9 => absurd rfl h9)
  refine W.widen (k := cells + 1) (n := slots + 6) (by omega) (by omega) ?_
  exact kk _ _ _ lp (lv_sub hl [0, 1, 2, 3, 4] rfl)
set_option maxHeartbeats 4000000 in
set_option maxRecDepth 100000 in
theorem g_phase {p : Program} {l : Launch} {e : Env} {s : State} {m : MethodId} {args : Array Value} {below : List Frame} {meth : Method} {c0 : Code} {H : Heap} {locs : List Loc} {cells slots : Nat} {Q : State → Prop} {ls : Array Slot} {D : va_G} {A : Nat → Prop} {cI cC cD cJ : ClassId} {ad1 ad2 : Nat → Nat} {N1 o b L i : Nat} {xs : Nat → Int32} {E1 E1' : Nat → va_E} {f f' : Nat → Int64} {th st st' : Int32} {n n' mn mn' : Nat} {ar ar' : Nat → Nat → Int32} {rm2 : Room} {k : Int32} {v : Int32} (S : CallFix p m c0 cL_law 7 s args bw "LetterAuctionLaw") (hX : va_X b L xs s s.heap) (hbl : b < s.heap.size) (hbA : ¬ A b) (hL : L ≤ 2050) (hi : i + 3 < L) (hcs : cells + 1 ≤ 601475 ∧ slots + 6 ≤ 7291645) (hl : lv_has ls 7 [(0, .ref b), (1, .ref (ad1 0)), (2, .ref (ad2 0)), (3, .ref o), (4, .int (nI i))]) (lp : LPt D (ty3 cI cC cD) cJ ad1 N1 ad2 A s E1 (mE ad2 cI th n st mn ar) o f H locs) (hW : RLc l yL_phase cL_phase 3 [(0, 8, 11, 15)] D (ty3 cI cC cD) cJ [.ref (ad1 0), .ref o] ad1 N1 E1 E1' o f f' k) (hT : k = 0 → f' 0 = v.toInt64) (hM : RM l yX4_phase cX4_phase 1 (some .int) rm2 D (ty3 cI cC cD) EN0 [.ref (ad2 0)] ad2 12 (mE ad2 cI th n st mn ar) (mE ad2 cI k n' st' mn' ar') (some (.int v))) (hz : rm2.cells = 0 ∧ rm2.slots = 0) (hR : rm2.frames + 1 ≤ 11 ∧ 8 + (1 + 11) + rm2.locals ≤ 390) (kk : ∀ (H1 : Heap) (locs1 : List Loc) (ls1 : Array Slot), LPt D (ty3 cI cC cD) cJ ad1 N1 ad2 A s E1' (mE ad2 cI k n' st' mn' ar') o f' H1 locs1 → lv_has ls1 7 [(0, .ref b), (1, .ref (ad1 0)), (2, .ref (ad2 0)), (3, .ref o), (4, .int (nI i))] → W p l e room_1 s m args below meth c0 H1 locs1 (cells + 1) (slots + 6) Q (F0 m 969 ls1 [])) : W p l e room_1 s m args below meth c0 H locs cells slots Q (F0 m 774 ls []) := by
  have hx := S.1
  have hb := S.2.1
  refine lv_aload_n hx hb dL_law_774 rfl (lv_at hl 1 rfl) ?_
  refine lv_aload_n hx hb dL_law_775 rfl (lv_at hl 3 rfl) ?_
  refine lp_callL S lp hW (bw4 bw_424 bw_425 bw_31 bw_426) hdL_phase rfl ⟨by decide, by decide⟩ hl.1 (Nat.le_of_ble_eq_true rfl) hcs (rest := []) rfl dL_law_776 (fun H locs lp => ?_)
  refine lv_istore (lv' := [(5, .int k), (0, .ref b), (1, .ref (ad1 0)), (2, .ref (ad2 0)), (3, .ref o), (4, .int (nI i))]) hx hb dL_law_779 hl (by decide) rfl (fun ls hl => ?_)
  refine lv_aload_n hx hb dL_law_781 rfl (lv_at hl 3 rfl) ?_
  refine lp_callM S lp hM (bw5 bw_596 bw_597 bw_598 bw_37 bw_599) (rb_recv lp.wm 0 (by omega) rfl rfl) hdX4_phase rfl hz hR hl.1 (Nat.le_of_ble_eq_true rfl) hcs (rest := []) (st1 := [.int v]) rfl rfl dL_law_782 (fun H locs lp => ?_)
  refine lv_istore (lv' := [(6, .int v), (5, .int k), (0, .ref b), (1, .ref (ad1 0)), (2, .ref (ad2 0)), (3, .ref o), (4, .int (nI i))]) hx hb dL_law_785 hl (by decide) rfl (fun ls hl => ?_)
  refine lv_aload_n hx hb dL_law_787 rfl (lv_at hl 4 rfl) ?_
  refine lp_callM S lp (m_thrown l D cI cC cD ad2 _ _ _ _ _) (bw5 bw_508 bw_509 bw_510 bw_37 bw_511) (rb_recv lp.wm 0 (by omega) rfl rfl) hdX4_thrown rfl ⟨rfl, rfl⟩ ⟨by decide, by decide⟩ hl.1 (Nat.le_of_ble_eq_true rfl) hcs (rest := []) (st1 := [.int k]) rfl rfl dL_law_788 (fun H locs lp => ?_)
  refine lv_iload hx hb dL_law_791 (lv_at hl 1 rfl) ?_
  refine lv_icmp_eq (tgt := 798) hx hb dL_law_793 (by decide) (fun _ => ?_) (fun h9 => absurd rfl h9)
  refine lv_iload hx hb dL_law_798 (lv_at hl 1 rfl) ?_
  refine lv_if_ne (tgt := 815) hx hb dL_law_800 (by decide) (fun hk0 => ?_) (fun hk0 => ?_)
  · refine lv_goto (tgt := 969) hx hb dL_law_815 (by decide) ?_
    exact kk _ _ _ lp (lv_sub hl [2, 3, 4, 5, 6] rfl)
  · refine lv_aload_n hx hb dL_law_803 rfl (lv_at hl 5 rfl) ?_
    refine lv_iconst (v := nI 0) hx hb dL_law_804 (by decide) ?_
    refine lp_lald S lp dL_law_805 ?_
    refine lv_iload hx hb dL_law_806 (lv_at hl 0 rfl) ?_
    refine lv_i2l hx hb dL_law_808 rfl ?_
    refine lv_lcmp0 hx hb (hT hk0) dL_law_809 ?_
    refine lv_if_eq (tgt := 815) hx hb dL_law_810 (by decide) (fun _ => ?_) (fun h9 => absurd rfl h9)
    refine lv_goto (tgt := 969) hx hb dL_law_815 (by decide) ?_
    exact kk _ _ _ lp (lv_sub hl [2, 3, 4, 5, 6] rfl)
set_option maxHeartbeats 4000000 in
set_option maxRecDepth 100000 in
theorem g_total {p : Program} {l : Launch} {e : Env} {s : State} {m : MethodId} {args : Array Value} {below : List Frame} {meth : Method} {c0 : Code} {H : Heap} {locs : List Loc} {cells slots : Nat} {Q : State → Prop} {ls : Array Slot} {D : va_G} {A : Nat → Prop} {cI cC cD cJ : ClassId} {ad1 ad2 : Nat → Nat} {N1 o b L i : Nat} {xs : Nat → Int32} {E1 E1' : Nat → va_E} {f f' : Nat → Int64} {th st st' : Int32} {n n' mn mn' : Nat} {ar ar' : Nat → Nat → Int32} {rm2 : Room} {k : Int32} {v : Int32} (S : CallFix p m c0 cL_law 7 s args bw "LetterAuctionLaw") (hX : va_X b L xs s s.heap) (hbl : b < s.heap.size) (hbA : ¬ A b) (hL : L ≤ 2050) (hi : i + 3 < L) (hcs : cells + 1 ≤ 601475 ∧ slots + 6 ≤ 7291645) (hl : lv_has ls 7 [(0, .ref b), (1, .ref (ad1 0)), (2, .ref (ad2 0)), (3, .ref o), (4, .int (nI i))]) (lp : LPt D (ty3 cI cC cD) cJ ad1 N1 ad2 A s E1 (mE ad2 cI th n st mn ar) o f H locs) (hW : RLc l yL_total cL_total 3 [(0, 8, 11, 15)] D (ty3 cI cC cD) cJ [.ref (ad1 0), .ref o] ad1 N1 E1 E1' o f f' k) (hT : k = 0 → f' 0 = v.toInt64) (hM : RM l yX4_total cX4_total 3 (some .int) rm2 D (ty3 cI cC cD) EN0 [.ref (ad2 0)] ad2 12 (mE ad2 cI th n st mn ar) (mE ad2 cI k n' st' mn' ar') (some (.int v))) (hz : rm2.cells = 0 ∧ rm2.slots = 0) (hR : rm2.frames + 1 ≤ 11 ∧ 8 + (3 + 11) + rm2.locals ≤ 390) (kk : ∀ (H1 : Heap) (locs1 : List Loc) (ls1 : Array Slot), LPt D (ty3 cI cC cD) cJ ad1 N1 ad2 A s E1' (mE ad2 cI k n' st' mn' ar') o f' H1 locs1 → lv_has ls1 7 [(0, .ref b), (1, .ref (ad1 0)), (2, .ref (ad2 0)), (3, .ref o), (4, .int (nI i))] → W p l e room_1 s m args below meth c0 H1 locs1 (cells + 1) (slots + 6) Q (F0 m 969 ls1 [])) : W p l e room_1 s m args below meth c0 H locs cells slots Q (F0 m 818 ls []) := by
  have hx := S.1
  have hb := S.2.1
  refine lv_aload_n hx hb dL_law_818 rfl (lv_at hl 1 rfl) ?_
  refine lv_aload_n hx hb dL_law_819 rfl (lv_at hl 3 rfl) ?_
  refine lp_callL S lp hW (bw4 bw_431 bw_432 bw_31 bw_433) hdL_total rfl ⟨by decide, by decide⟩ hl.1 (Nat.le_of_ble_eq_true rfl) hcs (rest := []) rfl dL_law_820 (fun H locs lp => ?_)
  refine lv_istore (lv' := [(5, .int k), (0, .ref b), (1, .ref (ad1 0)), (2, .ref (ad2 0)), (3, .ref o), (4, .int (nI i))]) hx hb dL_law_823 hl (by decide) rfl (fun ls hl => ?_)
  refine lv_aload_n hx hb dL_law_825 rfl (lv_at hl 3 rfl) ?_
  refine lp_callM S lp hM (bw5 bw_600 bw_601 bw_602 bw_37 bw_603) (rb_recv lp.wm 0 (by omega) rfl rfl) hdX4_total rfl hz hR hl.1 (Nat.le_of_ble_eq_true rfl) hcs (rest := []) (st1 := [.int v]) rfl rfl dL_law_826 (fun H locs lp => ?_)
  refine lv_istore (lv' := [(6, .int v), (5, .int k), (0, .ref b), (1, .ref (ad1 0)), (2, .ref (ad2 0)), (3, .ref o), (4, .int (nI i))]) hx hb dL_law_829 hl (by decide) rfl (fun ls hl => ?_)
  refine lv_aload_n hx hb dL_law_831 rfl (lv_at hl 4 rfl) ?_
  refine lp_callM S lp (m_thrown l D cI cC cD ad2 _ _ _ _ _) (bw5 bw_508 bw_509 bw_510 bw_37 bw_511) (rb_recv lp.wm 0 (by omega) rfl rfl) hdX4_thrown rfl ⟨rfl, rfl⟩ ⟨by decide, by decide⟩ hl.1 (Nat.le_of_ble_eq_true rfl) hcs (rest := []) (st1 := [.int k]) rfl rfl dL_law_832 (fun H locs lp => ?_)
  refine lv_iload hx hb dL_law_835 (lv_at hl 1 rfl) ?_
  refine lv_icmp_eq (tgt := 842) hx hb dL_law_837 (by decide) (fun _ => ?_) (fun h9 => absurd rfl h9)
  refine lv_iload hx hb dL_law_842 (lv_at hl 1 rfl) ?_
  refine lv_if_ne (tgt := 859) hx hb dL_law_844 (by decide) (fun hk0 => ?_) (fun hk0 => ?_)
  · refine lv_goto (tgt := 969) hx hb dL_law_859 (by decide) ?_
    exact kk _ _ _ lp (lv_sub hl [2, 3, 4, 5, 6] rfl)
  · refine lv_aload_n hx hb dL_law_847 rfl (lv_at hl 5 rfl) ?_
    refine lv_iconst (v := nI 0) hx hb dL_law_848 (by decide) ?_
    refine lp_lald S lp dL_law_849 ?_
    refine lv_iload hx hb dL_law_850 (lv_at hl 0 rfl) ?_
    refine lv_i2l hx hb dL_law_852 rfl ?_
    refine lv_lcmp0 hx hb (hT hk0) dL_law_853 ?_
    refine lv_if_eq (tgt := 859) hx hb dL_law_854 (by decide) (fun _ => ?_) (fun h9 => absurd rfl h9)
    refine lv_goto (tgt := 969) hx hb dL_law_859 (by decide) ?_
    exact kk _ _ _ lp (lv_sub hl [2, 3, 4, 5, 6] rfl)
set_option maxHeartbeats 4000000 in
set_option maxRecDepth 100000 in
theorem g_proves {p : Program} {l : Launch} {e : Env} {s : State} {m : MethodId} {args : Array Value} {below : List Frame} {meth : Method} {c0 : Code} {H : Heap} {locs : List Loc} {cells slots : Nat} {Q : State → Prop} {ls : Array Slot} {D : va_G} {A : Nat → Prop} {cI cC cD cJ : ClassId} {ad1 ad2 : Nat → Nat} {N1 o b L i : Nat} {xs : Nat → Int32} {E1 E1' : Nat → va_E} {f f' : Nat → Int64} {th st st' : Int32} {n n' mn mn' : Nat} {ar ar' : Nat → Nat → Int32} {rm2 : Room} {k : Int32} {v : Int32} (S : CallFix p m c0 cL_law 7 s args bw "LetterAuctionLaw") (hX : va_X b L xs s s.heap) (hbl : b < s.heap.size) (hbA : ¬ A b) (hL : L ≤ 2050) (hi : i + 3 < L) (hcs : cells + 1 ≤ 601475 ∧ slots + 6 ≤ 7291645) (hl : lv_has ls 7 [(0, .ref b), (1, .ref (ad1 0)), (2, .ref (ad2 0)), (3, .ref o), (4, .int (nI i))]) (lp : LPt D (ty3 cI cC cD) cJ ad1 N1 ad2 A s E1 (mE ad2 cI th n st mn ar) o f H locs) (hW : RLc l yL_proves cL_proves 3 [(0, 15, 18, 15)] D (ty3 cI cC cD) cJ [.ref (ad1 0), .ref o] ad1 N1 E1 E1' o f f' k) (hT : k = 0 → f' 0 = v.toInt64) (hvb : v = 0 ∨ v = 1) (hM : RM l yX4_proves cX4_proves 3 (some .boolean) rm2 D (ty3 cI cC cD) EN0 [.ref (ad2 0)] ad2 12 (mE ad2 cI th n st mn ar) (mE ad2 cI k n' st' mn' ar') (some (.int v))) (hz : rm2.cells = 0 ∧ rm2.slots = 0) (hR : rm2.frames + 1 ≤ 11 ∧ 8 + (3 + 11) + rm2.locals ≤ 390) (kk : ∀ (H1 : Heap) (locs1 : List Loc) (ls1 : Array Slot), LPt D (ty3 cI cC cD) cJ ad1 N1 ad2 A s E1' (mE ad2 cI k n' st' mn' ar') o f' H1 locs1 → lv_has ls1 7 [(0, .ref b), (1, .ref (ad1 0)), (2, .ref (ad2 0)), (3, .ref o), (4, .int (nI i))] → W p l e room_1 s m args below meth c0 H1 locs1 (cells + 1) (slots + 6) Q (F0 m 969 ls1 [])) : W p l e room_1 s m args below meth c0 H locs cells slots Q (F0 m 862 ls []) := by
  have hx := S.1
  have hb := S.2.1
  refine lv_aload_n hx hb dL_law_862 rfl (lv_at hl 1 rfl) ?_
  refine lv_aload_n hx hb dL_law_863 rfl (lv_at hl 3 rfl) ?_
  refine lp_callL S lp hW (bw4 bw_438 bw_439 bw_31 bw_440) hdL_proves rfl ⟨by decide, by decide⟩ hl.1 (Nat.le_of_ble_eq_true rfl) hcs (rest := []) rfl dL_law_864 (fun H locs lp => ?_)
  refine lv_istore (lv' := [(5, .int k), (0, .ref b), (1, .ref (ad1 0)), (2, .ref (ad2 0)), (3, .ref o), (4, .int (nI i))]) hx hb dL_law_867 hl (by decide) rfl (fun ls hl => ?_)
  refine lv_aload_n hx hb dL_law_869 rfl (lv_at hl 3 rfl) ?_
  refine lp_callM S lp hM (bw5 bw_604 bw_605 bw_606 bw_37 bw_607) (rb_recv lp.wm 0 (by omega) rfl rfl) hdX4_proves rfl hz hR hl.1 (Nat.le_of_ble_eq_true rfl) hcs (rest := []) (st1 := [.int v]) rfl rfl dL_law_870 (fun H locs lp => ?_)
  refine lv_istore (lv' := [(6, .int v), (5, .int k), (0, .ref b), (1, .ref (ad1 0)), (2, .ref (ad2 0)), (3, .ref o), (4, .int (nI i))]) hx hb dL_law_873 hl (by decide) rfl (fun ls hl => ?_)
  refine lv_aload_n hx hb dL_law_875 rfl (lv_at hl 4 rfl) ?_
  refine lp_callM S lp (m_thrown l D cI cC cD ad2 _ _ _ _ _) (bw5 bw_508 bw_509 bw_510 bw_37 bw_511) (rb_recv lp.wm 0 (by omega) rfl rfl) hdX4_thrown rfl ⟨rfl, rfl⟩ ⟨by decide, by decide⟩ hl.1 (Nat.le_of_ble_eq_true rfl) hcs (rest := []) (st1 := [.int k]) rfl rfl dL_law_876 (fun H locs lp => ?_)
  refine lv_iload hx hb dL_law_879 (lv_at hl 1 rfl) ?_
  refine lv_icmp_eq (tgt := 886) hx hb dL_law_881 (by decide) (fun _ => ?_) (fun h9 => absurd rfl h9)
  refine lv_iload hx hb dL_law_886 (lv_at hl 1 rfl) ?_
  refine lv_if_ne (tgt := 910) hx hb dL_law_888 (by decide) (fun hk0 => ?_) (fun hk0 => ?_)
  · refine lv_goto (tgt := 969) hx hb dL_law_910 (by decide) ?_
    exact kk _ _ _ lp (lv_sub hl [2, 3, 4, 5, 6] rfl)
  · refine lv_aload_n hx hb dL_law_891 rfl (lv_at hl 5 rfl) ?_
    refine lv_iconst (v := nI 0) hx hb dL_law_892 (by decide) ?_
    refine lp_lald S lp dL_law_893 ?_
    refine lv_iload hx hb dL_law_894 (lv_at hl 0 rfl) ?_
    refine lv_if_eq (tgt := 903) hx hb dL_law_896 (by decide) (fun h8 => ?_) (fun h8 => ?_)
    · refine lv_lconst (v := v.toInt64) hx hb dL_law_903 (by rw [h8]; decide) ?_
      refine lv_lcmp0 hx hb (hT hk0) dL_law_904 ?_
      refine lv_if_eq (tgt := 910) hx hb dL_law_905 (by decide) (fun _ => ?_) (fun h9 => absurd rfl h9)
      refine lv_goto (tgt := 969) hx hb dL_law_910 (by decide) ?_
      exact kk _ _ _ lp (lv_sub hl [2, 3, 4, 5, 6] rfl)
    · refine lv_lconst (v := v.toInt64) hx hb dL_law_899 (by rw [hvb.resolve_left h8]; decide) ?_
      refine lv_goto (tgt := 904) hx hb dL_law_900 (by decide) ?_
      refine lv_lcmp0 hx hb (hT hk0) dL_law_904 ?_
      refine lv_if_eq (tgt := 910) hx hb dL_law_905 (by decide) (fun _ => ?_) (fun h9 => absurd rfl h9)
      refine lv_goto (tgt := 969) hx hb dL_law_910 (by decide) ?_
      exact kk _ _ _ lp (lv_sub hl [2, 3, 4, 5, 6] rfl)
set_option maxHeartbeats 4000000 in
set_option maxRecDepth 100000 in
theorem g_count {p : Program} {l : Launch} {e : Env} {s : State} {m : MethodId} {args : Array Value} {below : List Frame} {meth : Method} {c0 : Code} {H : Heap} {locs : List Loc} {cells slots : Nat} {Q : State → Prop} {ls : Array Slot} {D : va_G} {A : Nat → Prop} {cI cC cD cJ : ClassId} {ad1 ad2 : Nat → Nat} {N1 o b L i : Nat} {xs : Nat → Int32} {E1 E1' : Nat → va_E} {f f' : Nat → Int64} {th st st' : Int32} {n n' mn mn' : Nat} {ar ar' : Nat → Nat → Int32} {rm2 : Room} {k : Int32} {v : Int32} {x1 : Int32} (S : CallFix p m c0 cL_law 7 s args bw "LetterAuctionLaw") (hX : va_X b L xs s s.heap) (hbl : b < s.heap.size) (hbA : ¬ A b) (hL : L ≤ 2050) (hi : i + 3 < L) (hcs : cells + 1 ≤ 601475 ∧ slots + 6 ≤ 7291645) (hl : lv_has ls 7 [(0, .ref b), (1, .ref (ad1 0)), (2, .ref (ad2 0)), (3, .ref o), (4, .int (nI i))]) (e1 : xs (i + 1) = x1) (lp : LPt D (ty3 cI cC cD) cJ ad1 N1 ad2 A s E1 (mE ad2 cI th n st mn ar) o f H locs) (hW : RLc l yL_count cL_count 4 [(0, 9, 12, 13)] D (ty3 cI cC cD) cJ [.ref (ad1 0), .int x1, .ref o] ad1 N1 E1 E1' o f f' k) (hT : k = 0 → f' 0 = v.toInt64) (hM : RM l yX4_count cX4_count 2 (some .int) rm2 D (ty3 cI cC cD) EN0 [.ref (ad2 0), .int x1] ad2 12 (mE ad2 cI th n st mn ar) (mE ad2 cI k n' st' mn' ar') (some (.int v))) (hz : rm2.cells = 0 ∧ rm2.slots = 0) (hR : rm2.frames + 1 ≤ 11 ∧ 8 + (2 + 11) + rm2.locals ≤ 390) (kk : ∀ (H1 : Heap) (locs1 : List Loc) (ls1 : Array Slot), LPt D (ty3 cI cC cD) cJ ad1 N1 ad2 A s E1' (mE ad2 cI k n' st' mn' ar') o f' H1 locs1 → lv_has ls1 7 [(0, .ref b), (1, .ref (ad1 0)), (2, .ref (ad2 0)), (3, .ref o), (4, .int (nI i))] → W p l e room_1 s m args below meth c0 H1 locs1 (cells + 1) (slots + 6) Q (F0 m 969 ls1 [])) : W p l e room_1 s m args below meth c0 H locs cells slots Q (F0 m 913 ls []) := by
  subst e1
  have hx := S.1
  have hb := S.2.1
  refine lv_aload_n hx hb dL_law_913 rfl (lv_at hl 1 rfl) ?_
  refine lv_aload_n hx hb dL_law_914 rfl (lv_at hl 0 rfl) ?_
  refine lv_iload hx hb dL_law_915 (lv_at hl 4 rfl) ?_
  refine lv_iconst (v := nI 1) hx hb dL_law_917 (by decide) ?_
  refine lv_iadd hx hb dL_law_918 ?_
  refine nb_ren (y := nI (i + 1)) (nI_add _ _) ?_
  refine lp_ld S lp.2.2.2.2.1 hX hbl hbA hL (i + 1) (by omega) dL_law_919 ?_
  refine lv_aload_n hx hb dL_law_920 rfl (lv_at hl 3 rfl) ?_
  refine lp_callL S lp hW (bw4 bw_445 bw_446 bw_31 bw_447) hdL_count rfl ⟨by decide, by decide⟩ hl.1 (Nat.le_of_ble_eq_true rfl) hcs (rest := []) rfl dL_law_921 (fun H locs lp => ?_)
  refine lv_istore (lv' := [(5, .int k), (0, .ref b), (1, .ref (ad1 0)), (2, .ref (ad2 0)), (3, .ref o), (4, .int (nI i))]) hx hb dL_law_924 hl (by decide) rfl (fun ls hl => ?_)
  refine lv_aload_n hx hb dL_law_926 rfl (lv_at hl 3 rfl) ?_
  refine lv_aload_n hx hb dL_law_927 rfl (lv_at hl 1 rfl) ?_
  refine lv_iload hx hb dL_law_928 (lv_at hl 5 rfl) ?_
  refine lv_iconst (v := nI 1) hx hb dL_law_930 (by decide) ?_
  refine lv_iadd hx hb dL_law_931 ?_
  refine nb_ren (y := nI (i + 1)) (nI_add _ _) ?_
  refine lp_ld S lp.2.2.2.2.1 hX hbl hbA hL (i + 1) (by omega) dL_law_932 ?_
  refine lp_callM S lp hM (bw5 bw_608 bw_609 bw_610 bw_37 bw_611) (rb_recv lp.wm 0 (by omega) rfl rfl) hdX4_count rfl hz hR hl.1 (Nat.le_of_ble_eq_true rfl) hcs (rest := []) (st1 := [.int v]) rfl rfl dL_law_933 (fun H locs lp => ?_)
  refine lv_istore (lv' := [(6, .int v), (5, .int k), (0, .ref b), (1, .ref (ad1 0)), (2, .ref (ad2 0)), (3, .ref o), (4, .int (nI i))]) hx hb dL_law_936 hl (by decide) rfl (fun ls hl => ?_)
  refine lv_aload_n hx hb dL_law_938 rfl (lv_at hl 4 rfl) ?_
  refine lp_callM S lp (m_thrown l D cI cC cD ad2 _ _ _ _ _) (bw5 bw_508 bw_509 bw_510 bw_37 bw_511) (rb_recv lp.wm 0 (by omega) rfl rfl) hdX4_thrown rfl ⟨rfl, rfl⟩ ⟨by decide, by decide⟩ hl.1 (Nat.le_of_ble_eq_true rfl) hcs (rest := []) (st1 := [.int k]) rfl rfl dL_law_939 (fun H locs lp => ?_)
  refine lv_iload hx hb dL_law_942 (lv_at hl 1 rfl) ?_
  refine lv_icmp_eq (tgt := 949) hx hb dL_law_944 (by decide) (fun _ => ?_) (fun h9 => absurd rfl h9)
  refine lv_iload hx hb dL_law_949 (lv_at hl 1 rfl) ?_
  refine lv_if_ne (tgt := 966) hx hb dL_law_951 (by decide) (fun hk0 => ?_) (fun hk0 => ?_)
  · refine lv_goto (tgt := 969) hx hb dL_law_966 (by decide) ?_
    exact kk _ _ _ lp (lv_sub hl [2, 3, 4, 5, 6] rfl)
  · refine lv_aload_n hx hb dL_law_954 rfl (lv_at hl 5 rfl) ?_
    refine lv_iconst (v := nI 0) hx hb dL_law_955 (by decide) ?_
    refine lp_lald S lp dL_law_956 ?_
    refine lv_iload hx hb dL_law_957 (lv_at hl 0 rfl) ?_
    refine lv_i2l hx hb dL_law_959 rfl ?_
    refine lv_lcmp0 hx hb (hT hk0) dL_law_960 ?_
    refine lv_if_eq (tgt := 966) hx hb dL_law_961 (by decide) (fun _ => ?_) (fun h9 => absurd rfl h9)
    refine lv_goto (tgt := 969) hx hb dL_law_966 (by decide) ?_
    exact kk _ _ _ lp (lv_sub hl [2, 3, 4, 5, 6] rfl)
