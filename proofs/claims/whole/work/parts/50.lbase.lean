/-! worlds side by side; the contracts of the law's wrappers -/
theorem rlw_fst {ad : Nat → Nat} {E : Nat → va_E} {N : Nat} : (rlw ad E N).map Prod.fst = (List.range N).map ad := by
  simp [rlw, List.map_map, Function.comp_def]
theorem rlw_adr {ad : Nat → Nat} {E E' : Nat → va_E} {N : Nat} : (rlw ad E' N).map Prod.fst = (rlw ad E N).map Prod.fst := by rw [rlw_fst, rlw_fst]
theorem adr_at {w w' : va_W} (h : w'.map Prod.fst = w.map Prod.fst) {k : Nat} {q : Nat × va_E} (hq : w'[k]? = some q) : ∃ e, w[k]? = some (q.1, e) := by
  have h1 : (w'.map Prod.fst)[k]? = some q.1 := by rw [List.getElem?_map, hq]; rfl
  rw [h, List.getElem?_map] at h1
  cases h2 : w[k]? with
  | none => rw [h2] at h1; cases h1
  | some x =>
    rw [h2] at h1
    have h3 : x.1 = q.1 := Option.some.inj h1
    exact ⟨x.2, by rw [← h3]⟩
theorem D_adr {A : Nat → Prop} {w w' : va_W} (h : w'.map Prod.fst = w.map Prod.fst) (hD : va_D A w) : va_D A w' := by
  refine ⟨fun i j p q hp hq e => ?_, fun k q hq => ?_⟩
  · obtain ⟨e1, h1⟩ := adr_at h hp
    obtain ⟨e2, h2⟩ := adr_at h hq
    exact hD.1 i j _ _ h1 h2 e
  · obtain ⟨e1, h1⟩ := adr_at h hq
    exact (show A q.1 from hD.2 k (q.1, e1) h1)
theorem A_adr {w w' : va_W} (h : w'.map Prod.fst = w.map Prod.fst) {sz q : Nat} (hA : va_A w' sz q) : va_A w sz q := by
  rcases hA with ⟨k, e, hk⟩ | hA
  · obtain ⟨e1, h1⟩ := adr_at h hk
    exact Or.inl ⟨k, e1, h1⟩
  · exact Or.inr hA
theorem pre_at {a b : va_W} {k : Nat} {q : Nat × va_E} (h : a[k]? = some q) : (a ++ b)[k]? = some q := by
  rw [List.getElem?_append_left (List.getElem?_eq_some_iff.mp h).1]; exact h
theorem suf_at {a b : va_W} {k : Nat} {q : Nat × va_E} (h : b[k]? = some q) : (a ++ b)[a.length + k]? = some q := by
  rw [List.getElem?_append_right (by omega)]
  rw [show a.length + k - a.length = k by omega]; exact h
theorem app_at {a b : va_W} {k : Nat} {q : Nat × va_E} (h : (a ++ b)[k]? = some q) : a[k]? = some q ∨ ∃ j, k = a.length + j ∧ b[j]? = some q := by
  by_cases hk : k < a.length
  · rw [List.getElem?_append_left hk] at h; exact Or.inl h
  · rw [List.getElem?_append_right (by omega)] at h
    exact Or.inr ⟨k - a.length, by omega, h⟩
theorem pre_P {D : va_G} {a b : va_W} {H : Heap} (h : va_P D vcl (a ++ b) H) : va_P D vcl a H := fun k q hq => h k q (pre_at hq)
theorem suf_P {D : va_G} {a b : va_W} {H : Heap} (h : va_P D vcl (a ++ b) H) : va_P D vcl b H := fun k q hq => h _ q (suf_at hq)
theorem app_P {D : va_G} {a b : va_W} {H : Heap} (h1 : va_P D vcl a H) (h2 : va_P D vcl b H) : va_P D vcl (a ++ b) H := fun k q hq => by
  rcases app_at hq with h | ⟨j, -, h⟩
  · exact h1 k q h
  · exact h2 j q h
theorem pre_D {A : Nat → Prop} {a b : va_W} (h : va_D A (a ++ b)) : va_D A a := ⟨fun i j p q hp hq e => h.1 i j p q (pre_at hp) (pre_at hq) e, fun k q hq => h.2 k q (pre_at hq)⟩
theorem suf_D {A : Nat → Prop} {a b : va_W} (h : va_D A (a ++ b)) : va_D A b := ⟨fun i j p q hp hq e => by
  have := h.1 _ _ p q (suf_at hp) (suf_at hq) e
  omega, fun k q hq => h.2 _ q (suf_at hq)⟩
theorem apart_D {A : Nat → Prop} {a b : va_W} (h : va_D A (a ++ b)) {i j : Nat} {p q : Nat × va_E} (hp : a[i]? = some p) (hq : b[j]? = some q) : p.1 ≠ q.1 := fun e => by
  have h1 := h.1 _ _ p q (pre_at hp) (suf_at hq) e
  have h2 := (List.getElem?_eq_some_iff.mp hp).1
  omega
/-- a call on the first part -/
theorem join_pre {D : va_G} {A : Nat → Prop} {a a' b : va_W} {H H1 : Heap} (hP : va_P D vcl (a ++ b) H) (hD : va_D A (a ++ b)) (hadr : a'.map Prod.fst = a.map Prod.fst) (hk : ∀ q : Nat, q < H.size → ¬ va_A a H.size q → H1[q]? = H[q]?) (hP1 : va_P D vcl a' H1) : va_P D vcl (a' ++ b) H1 ∧ va_D A (a' ++ b) := by
  refine ⟨app_P hP1 (va_P.kept (suf_P hP) fun k q hq => ?_), D_adr (by rw [List.map_append, List.map_append, hadr]) hD⟩
  have hlt : q.1 < H.size := (suf_P hP k q hq).lt
  refine hk q.1 hlt ?_
  rintro (⟨j, e, hj⟩ | hj)
  · exact apart_D hD hj hq rfl
  · exact absurd hlt (Nat.not_lt.mpr hj)
/-- a call on the last part -/
theorem join_suf {D : va_G} {A : Nat → Prop} {a b b' : va_W} {H H1 : Heap} (hP : va_P D vcl (a ++ b) H) (hD : va_D A (a ++ b)) (hadr : b'.map Prod.fst = b.map Prod.fst) (hk : ∀ q : Nat, q < H.size → ¬ va_A b H.size q → H1[q]? = H[q]?) (hP1 : va_P D vcl b' H1) : va_P D vcl (a ++ b') H1 ∧ va_D A (a ++ b') := by
  refine ⟨app_P (va_P.kept (pre_P hP) fun k q hq => ?_) hP1, D_adr (by rw [List.map_append, List.map_append, hadr]) hD⟩
  have hlt : q.1 < H.size := (pre_P hP k q hq).lt
  refine hk q.1 hlt ?_
  rintro (⟨j, e, hj⟩ | hj)
  · exact apart_D hD hq hj rfl
  · exact absurd hlt (Nat.not_lt.mpr hj)
def oW (ad : Nat → Nat) (E : Nat → va_E) (N o : Nat) (cJ : ClassId) (f : Nat → Int64) : va_W := rlw ad E N ++ [(o, .inl (cJ, 1, .inr (.inl f)))]
theorem oW_adr {ad : Nat → Nat} {E E' : Nat → va_E} {N o : Nat} {cJ : ClassId} {f f' : Nat → Int64} : (oW ad E' N o cJ f').map Prod.fst = (oW ad E N o cJ f).map Prod.fst := by
  unfold oW
  rw [List.map_append, List.map_append, rlw_adr (E := E)]
  rfl
def QL (D : va_G) (ad : Nat → Nat) (N : Nat) (A : Nat → Prop) (E' : Nat → va_E) (o : Nat) (cJ : ClassId) (f' : Nat → Int64) (k : Int32) : Array Value → State → Outcome → State → Prop :=
  fun _ st oc t => oc = .returned (some (.int k)) ∧ va_P D vcl (oW ad E' N o cJ f') t.heap ∧ va_F A st t
def WO (D : va_G) (tys : List (ClassId × FieldType)) (cJ : ClassId) (ad : Nat → Nat) (N : Nat) (A : Nat → Prop) (s : State) (E : Nat → va_E) (o : Nat) (f : Nat → Int64) (H : Heap) (locs : List Loc) : Prop :=
  va_K D vcl tys s ∧ va_K D vcl [(cJ, .long)] s ∧ va_P D vcl (oW ad E N o cJ f) H ∧ va_D A (oW ad E N o cJ f) ∧ va_S A s.heap H locs ∧ (∀ q, s.heap.size ≤ q → A q) ∧ ENC A s s.heap
/-- a wrapper's contract: it answers k, the class goes from E to E', the answer's cell from f to f' -/
def RLc (l : Launch) (y : MethodName) (cc : ByteArray) (nL : Nat) (hh : List (Nat × Nat × Nat × Nat)) (D : va_G) (tys : List (ClassId × FieldType)) (cJ : ClassId) (av : List Value) (ad : Nat → Nat) (N : Nat) (E E' : Nat → va_E) (o : Nat) (f f' : Nat → Int64) (k : Int32) : Prop :=
  ∀ sz : Nat, Met l y (.codeWith y cc nL (some .int) hh :: bw) { frames := 10, cells := 1, slots := 6, locals := 360 }
    (va_Pc av (fun U => U.heap.size = sz ∧ va_P D vcl (oW ad E N o cJ f) U.heap ∧ va_K D vcl tys U ∧ va_K D vcl [(cJ, .long)] U ∧ va_D (fun _ => True) (oW ad E N o cJ f) ∧ ENC (va_A (oW ad E N o cJ f) sz) U U.heap))
    (QL D ad N (va_A (oW ad E N o cJ f) sz) E' o cJ f' k) 1 6 (va_A (oW ad E N o cJ f) sz)
theorem RLc.of {l : Launch} {y : MethodName} {cc : ByteArray} {nL : Nat} {hh : List (Nat × Nat × Nat × Nat)} {D : va_G} {tys : List (ClassId × FieldType)} {cJ : ClassId} {av : List Value} {ad : Nat → Nat} {N o : Nat} {E E' : Nat → va_E} {f f' : Nat → Int64} {k : Int32}
    (hy : plainName y.cls = true) (hle : (lg_sl av).length ≤ nL)
    (body : ∀ (p : Program) (e : Env) (s : State) (m : MethodId) (below : List Frame) (meth : Method) (c : Code) (A : Nat → Prop) (ls : Array Slot) (args : Array Value) (Q0 : State → Prop),
      CallFix p m c cc nL s args bw y.cls → meth.sig.returnType = some .int → meth.locks = false → c.exceptionTable.toList = tableOf hh → Q0 = MQ below (QL D ad N A E' o cJ f' k) args s 1 6 A → WO D tys cJ ad N A s E o f s.heap [] → lv_has ls nL (lv_args 0 av) →
      W p l e { frames := 10, cells := 1, slots := 6, locals := 360 } s m args below meth c s.heap [] 0 0 Q0 (F0 m 0 ls [])) : RLc l y cc nL hh D tys cJ av ad N E E' o f f' k := by
  intro sz
  refine va_MetW (cc := cc) (maxL := nL) (ret := some .int) (hh := hh) hy rfl ?_
  intro p e s m args below meth c s₁ B hml hv
  obtain ⟨rfl, hsz, hP, hK, hKJ, hD0, hEN⟩ := hv
  have hts := atoms_spec (ws := Cond.codeWith y cc nL (some .int) hh :: bw) B.pre
  have hown : s.vm.findClass y.cls = some m.cls := findClass_of_methodNamed B.named
  have htab : c.exceptionTable.toList = tableOf hh := vx_table (x := y) B (hts _ List.mem_cons_self)
  subst hsz
  have hl := lv_entry av (n := nL) hle
  rw [lg_entry_eq]
  exact body p e s m below meth c _ _ _ _ ⟨B.exec, B.bytes, hml, hown, fun w hw => hts w (List.mem_cons_of_mem _ hw)⟩ B.returns B.notSynchronized htab rfl ⟨hK, hKJ, hP, hD0.self, va_S.rf, fun q h => Or.inr h, hEN⟩ hl
theorem WO.wb {D : va_G} {tys : List (ClassId × FieldType)} {cJ : ClassId} {ad : Nat → Nat} {N : Nat} {A : Nat → Prop} {s : State} {E : Nat → va_E} {o : Nat} {f : Nat → Int64} {H : Heap} {locs : List Loc} (h : WO D tys cJ ad N A s E o f H locs) : WB D tys ENC ad N A s E H locs :=
  ⟨h.1, pre_P h.2.2.1, pre_D h.2.2.2.1, h.2.2.2.2.1, h.2.2.2.2.2.1, h.2.2.2.2.2.2⟩
section LB
variable {p : Program} {l : Launch} {e : Env} {R : Room} {s : State} {m : MethodId} {args : Array Value} {below : List Frame} {meth : Method} {c : Code} {H : Heap} {locs : List Loc} {cells slots : Nat} {Q : State → Prop}
variable {cc : ByteArray} {pc nL : Nat} {ls : Array Slot} {rest : List Value} {D : va_G} {A : Nat → Prop} {tys : List (ClassId × FieldType)} {ad : Nat → Nat} {N o : Nat} {cJ : ClassId} {f f' : Nat → Int64} {E E' : Nat → va_E} {own : String}
theorem lo_in (wo : WO D tys cJ ad N A s E o f H locs) {q : Nat} (h : va_A (rlw ad E N) H.size q) : A q := by
  rcases h with ⟨k, e9, hk⟩ | h
  · exact (pre_D wo.2.2.2.1).2 k _ hk
  · exact wo.2.2.2.2.2.1 q (Nat.le_trans wo.2.2.2.2.1.1 h)
theorem lo_next (wo : WO D tys cJ ad N A s E o f H locs) {H1 : Heap} {L : List Loc} (hz : H.size ≤ H1.size) (hk : ∀ q : Nat, q < H.size → ¬ va_A (rlw ad E N) H.size q → H1[q]? = H[q]?) (hP1 : va_P D vcl (rlw ad E' N) H1) (hL : ∀ q ∈ L, va_A (rlw ad E N) H.size q.base) : WO D tys cJ ad N A s E' o f H1 (locs ++ L) := by
  have hF : ∀ q, va_A (rlw ad E N) H.size q → A q := fun q h => lo_in wo h
  obtain ⟨hK, hKJ, hP, hD, hS, hA, hEN⟩ := wo
  obtain ⟨j1, j2⟩ := join_pre hP hD rlw_adr hk hP1
  exact ⟨hK, hKJ, j1, j2, ⟨Nat.le_trans hS.1 hz, fun q h1 h2 => (hk q (Nat.lt_of_lt_of_le h1 hS.1) (fun z => h2 (hF q z))).trans (hS.2.1 q h1 h2), fun q hq => by
    rcases List.mem_append.mp hq with h | h
    · exact hS.2.2 q h
    · exact hF _ (hL q h)⟩, hA, hEN⟩
theorem lo_back (wo : WO D tys cJ ad N A s E o f H locs) {r : Option Value} {st0 : List Value}
    (hr : va_Run p l e R s m args below meth c H locs cells slots 0 0 (F0 m pc ls st0) rest (QM D ad N (va_A (rlw ad E N) H.size) E' r #[]) (va_A (rlw ad E N) H.size))
    (kk : ∀ (H1 : Heap) (locs1 : List Loc), WO D tys cJ ad N A s E' o f H1 locs1 → W p l e R s m args below meth c H1 locs1 cells slots Q (F0 m (pc + 3) ls (r.toList ++ rest))) : W p l e R s m args below meth c H locs cells slots Q (F0 m pc ls st0) := by
  intro T hT X
  obtain ⟨v, st₀, t, T', L, h0, X', hL, e1, e2, ⟨hv, hP1, hz, hk⟩, st⟩ := hr T hT X
  cases hv
  rw [h0] at hz hk
  obtain ⟨t2, a1, b1⟩ := kk T'.heap (locs ++ L) (lo_next wo (by rw [e1]; exact hz) (fun q h1 h2 => by rw [e1]; exact hk q h1 h2) (by rw [e1]; exact hP1) hL) T' rfl X'
  exact ⟨t2, st t2 a1, b1⟩
theorem lo_callV (S : CallFix p m c cc nL s args bw own) (wo : WO D tys cJ ad N A s E o f H locs) {y : MethodName} {cc2 : ByteArray} {nL2 : Nat} {ret2 : Option FieldType} {rm2 : Room} {b : Nat} {As : List Value} {r : Option Value} {index na : Nat}
    (hM : RM l y cc2 nL2 ret2 rm2 D tys ENC (.ref b :: As) ad N E E' r) (hwd : ∀ w ∈ ([.methodLink own index y, .instanceMethod y, .selects y.cls y y, .initialized y.cls, .code y cc2 nL2 ret2] : List Cond), w ∈ bw)
    (hrecv : ∃ cell : Cell, H[b]? = some cell ∧ cell.vm.isStatics = false ∧ s.vm.findClass y.cls = some cell.cls) (hd : y.cls = y.cls ∧ y.cls ≠ "java/lang/invoke/MethodHandle" ∧ y.cls ≠ "java/lang/invoke/VarHandle" ∧ (parseMethodDescriptor y.desc).map (fun d => d.parameters.length) = some na) (hna : As.length = na)
    (hz : rm2.cells = 0 ∧ rm2.slots = 0) (hR : rm2.frames + 1 ≤ R.frames ∧ 8 + (nL2 + 11) + rm2.locals ≤ R.locals) (hsize : ls.size = nL) (hroom : (rest.map fun v => v.category).sum ≤ 8) (hcs : cells ≤ R.cells ∧ slots ≤ R.slots) {st0 st1 : List Value} (hst : st0 = As.reverse ++ .ref b :: rest) (hst1 : r.toList ++ rest = st1) (hdg : decode cc pc = .ok (.invokevirtual index, 3))
    (kk : ∀ (H1 : Heap) (locs1 : List Loc), WO D tys cJ ad N A s E' o f H1 locs1 → W p l e R s m args below meth c H1 locs1 cells slots Q (F0 m (pc + 3) ls st1)) : W p l e R s m args below meth c H locs cells slots Q (F0 m pc ls st0) := by
  subst hst; subst hst1; subst hna
  refine lo_back wo (va_runV (As := As) (rest := rest) (n := As.length) (C := y.cls) (b := b) (bytes := cc2) (maxL := nL2) (ret := ret2) (index := index) S (hM H.size) (cwV As.length S.2.2.2.2 (bw_GI (fun _ h => h) ?_) rfl hz.1 hz.2 hd hR) ⟨(rb_pre wo.wb ENC_ok _).1, hrecv, (rb_pre wo.wb ENC_ok _).2⟩ rfl rfl hsize rfl (lv_room hroom) hdg hcs) kk
  intro w hw
  unfold wsV at hw
  rcases List.mem_append.mp hw with h | h
  · exact hwd w (by simp only [List.mem_cons, List.not_mem_nil, or_false] at h ⊢; rcases h with h | h | h | h <;> simp [h])
  · rcases List.mem_cons.mp h with h | h
    · exact hwd w (by rw [h]; simp)
    · exact h
/-- a call that throws X, caught by the row x -/
theorem lo_callX (S : CallFix p m c cc nL s args bw own) (wo : WO D tys cJ ad N A s E o f H locs) {y : MethodName} {cc2 : ByteArray} {nL2 : Nat} {ret2 : Option FieldType} {rm2 : Room} {b : Nat} {As : List Value} {index na : Nat} {X : String}
    (hM : RX l y cc2 nL2 ret2 rm2 D tys ENC (.ref b :: As) ad N E X) (hwd : ∀ w ∈ ([.methodLink own index y, .instanceMethod y, .selects y.cls y y, .initialized y.cls, .code y cc2 nL2 ret2] : List Cond), w ∈ bw)
    (hrecv : ∃ cell : Cell, H[b]? = some cell ∧ cell.vm.isStatics = false ∧ s.vm.findClass y.cls = some cell.cls) (hd : y.cls = y.cls ∧ y.cls ≠ "java/lang/invoke/MethodHandle" ∧ y.cls ≠ "java/lang/invoke/VarHandle" ∧ (parseMethodDescriptor y.desc).map (fun d => d.parameters.length) = some na) (hna : As.length = na)
    (hz : rm2.cells = 1 ∧ rm2.slots = 6) (hR : rm2.frames + 1 ≤ R.frames ∧ 8 + (nL2 + 11) + rm2.locals ≤ R.locals) (hsize : ls.size = nL) (hroom : (rest.map fun v => v.category).sum ≤ 8) (hcs : 1 ≤ R.cells ∧ 6 ≤ R.slots) {st0 : List Value} (hst : st0 = As.reverse ++ .ref b :: rest) (hdg : decode cc pc = .ok (.invokevirtual index, 3))
    (pre : List ExceptionTableEntry) (x : ExceptionTableEntry) (suf : List ExceptionTableEntry) (hsplit : c.exceptionTable.toList = pre ++ x :: suf)
    (hpass : ∀ z ∈ pre, covers z pc = false ∨ (z.catchType ≠ 0 ∧ ∃ nm : String, Cond.classLink own z.catchType nm ∈ bw ∧ va_Nc X nm s)) (hx : covers x pc = true) (h0 : x.catchType ≠ 0) (hlink : Cond.classLink own x.catchType X ∈ bw) (hcast : Cond.castable X X ∈ nwW) {hpc : Nat} (hpc1 : x.handlerPc = hpc)
    (kk : ∀ (H1 : Heap) (locs1 : List Loc) (q : Nat), WO D tys cJ ad N A s E o f H1 locs1 → W p l e R s m args below meth c H1 locs1 1 6 Q (F0 m hpc ls [.ref q])) : W p l e R s m args below meth c H locs 0 0 Q (F0 m pc ls st0) := by
  subst hst; subst hna; subst hpc1
  have hr := vx_runV (As := As) (rest := rest) (n := As.length) (C := y.cls) (b := b) (bytes := cc2) (maxL := nL2) (ret := ret2) (index := index) (g := F0 m pc ls (As.reverse ++ .ref b :: rest)) (locs := locs) (below := below) (p := p) (l := l) (e := e) (R := R) (meth := meth) (cells := 0) (slots := 0) S (hM H.size) (cwV As.length S.2.2.2.2 (bw_GI (fun _ h => h) (fun w hw => by
    unfold wsV at hw
    rcases List.mem_append.mp hw with h | h
    · exact hwd w (by simp only [List.mem_cons, List.not_mem_nil, or_false] at h ⊢; rcases h with h | h | h | h <;> simp [h])
    · rcases List.mem_cons.mp h with h | h
      · exact hwd w (by rw [h]; simp)
      · exact h)) rfl hz.1 hz.2 hd hR) ⟨(rb_pre wo.wb ENC_ok _).1, hrecv, (rb_pre wo.wb ENC_ok _).2⟩ rfl rfl hsize rfl (lv_room hroom) hdg (by omega)
  intro T hT X0
  rcases hr T hT X0 with ⟨v, st₀, t, T', L, h0, X', hL, e1, e2, hf, st⟩ | ⟨q, st₀, t, T', L, Ec, ce, h0', X', hL, e1, e2, ⟨hE, hP1, hz, hk⟩, hce, hcv, hcl, st⟩
  · exact hf.elim
  · subst hE
    rw [h0'] at hz hk
    have wo1 : WO D tys cJ ad N A s E o f T'.heap (locs ++ L) := lo_next wo (by rw [e1]; exact hz) (fun q h1 h2 => by rw [e1]; exact hk q h1 h2) (by rw [e1]; exact hP1) hL
    have hn1 := wo.2.2.2.2.2.2.1
    have k : vx_W p l e R s m args below meth c T'.heap (locs ++ L) (0 + 1) (0 + 6) Q (F0 m pc ls rest) q :=
      vx_catch (own := own) (name := Ec) (E := Ec) (ce := ce) S.2.2.2.1 pre x suf hsplit (fun z hz => (hpass z hz).imp id (fun h => ⟨h.1, h.2.choose, S.2.2.2.2 _ h.2.choose_spec.1, h.2.choose_spec.2⟩)) hx h0 (S.2.2.2.2 _ hlink) (va_Nw.use rfl (hn1 _ hcast)) (by rw [e1]; exact hce) hcv hcl (kk _ _ q wo1)
    obtain ⟨t2, a1, b1⟩ := k T' rfl X'
    exact ⟨t2, st.trans a1, b1⟩
theorem oW_set : (oW ad E N o cJ f).set N (o, .inl (cJ, 1, .inr (.inl f'))) = oW ad E N o cJ f' := by
  unfold oW
  have h : (rlw ad E N).length = N := rlw_len
  rw [List.set_append_right _ _ (by omega), h, Nat.sub_self]
  rfl
theorem oW_at : (oW ad E N o cJ f)[N]? = some (o, .inl (cJ, 1, .inr (.inl f))) := by
  unfold oW
  have h : (rlw ad E N).length = N := rlw_len
  rw [List.getElem?_append_right (by omega), h, Nat.sub_self]
  rfl
theorem lo_last (S : CallFix p m c cc nL s args bw own) (wo : WO D tys cJ ad N A s E o f H locs) {x : Int64} (hdg : decode cc pc = .ok (.lastore, 1))
    (kk : ∀ (H1 : Heap) (locs1 : List Loc), WO D tys cJ ad N A s E o (vp_updL f 0 x) H1 locs1 → W p l e R s m args below meth c H1 locs1 cells slots Q (F0 m (pc + 1) ls rest)) : W p l e R s m args below meth c H locs cells slots Q (F0 m pc ls (.long x :: .int (nI 0) :: .ref o :: rest)) := by
  obtain ⟨hK, hKJ, hP, hD, hS, hA, hEN⟩ := wo
  refine va_last (D := D) S.1 S.2.1 hKJ hP hD hS N 0 oW_at rfl (vp_in_nI (by omega) (by omega)) hdg (fun H1 locs1 h1 h2 h3 => ?_)
  rw [oW_set] at h1 h2
  exact kk H1 locs1 ⟨hK, hKJ, h1, h2, h3, hA, hEN⟩
theorem lo_iret {v v' : Int32} {Q0 : State → Prop} (hS : CallFix p m c cc nL s args bw own) (hr : meth.sig.returnType = some .int) (hlocks : meth.locks = false) (hQ : Q0 = MQ below (QL D ad N A E o cJ f v') args s 1 6 A) (hv : v' = v) (wo : WO D tys cJ ad N A s E o f H locs) (hdg : decode cc pc = .ok (.ireturn, 1)) :
    W p l e R s m args below meth c H locs 1 6 Q0 (F0 m pc ls [.int v]) := by
  subst hQ; subst hv
  obtain ⟨-, -, hP, -, hSS, -, -⟩ := wo
  exact W.iret hS.1 hS.2.1 hr (fun t ht hW => ⟨rfl, by rw [ht]; exact hP, hSS.F ht⟩) hSS.2.2 hdg hlocks
theorem lv_lcmp0 (hexec : p.tables.exec = Jvm.exec) (hb : c.code = cc) {x y : Int64} (hxy : x = y) (hdg : decode cc pc = .ok (.lcmp, 1))
    (k : W p l e R s m args below meth c H locs cells slots Q (F0 m (pc + 1) ls (.int 0 :: rest))) : W p l e R s m args below meth c H locs cells slots Q (F0 m pc ls (.long y :: .long x :: rest)) := by
  subst hxy
  intro T hT X
  obtain ⟨t, a, b⟩ := k T hT X
  refine ⟨t, ?_, b⟩
  have h1 : ¬ x > x := by
    rw [gt_iff_lt, Int64.lt_iff_toInt_lt]; omega
  jvm_step X.here [X.here.top, hexec, hb, hdg, h1]
  exact a
end LB
