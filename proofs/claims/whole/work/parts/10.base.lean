/-! worlds by roles: a list of cells, the cell of role r at the address ad r with the contents E r -/
abbrev vcl : List vw_C := [(RX0, TX0, 6), (RX1, TX1, 3), (RX2, TX2, 2), (RX3, TX3, 6), (RX4, TX4, 15)]
def bw : List Cond := lw_tbl.filter goodWord
theorem bw_in {w : Cond} (h : w ∈ bw) : w ∈ lw_tbl := (List.mem_filter.mp h).1
theorem bw_good {w : Cond} (h : w ∈ bw) : goodWord w = true := (List.mem_filter.mp h).2
theorem bw_GI {ts l : List Cond} (hts : ∀ w ∈ bw, w ∈ ts) (h : ∀ w ∈ l, w ∈ bw) : GoodIn ts l := fun w hw => ⟨hts w (h w hw), good_of_word (bw_good (h w hw))⟩
def rlw (ad : Nat → Nat) (E : Nat → va_E) (N : Nat) : va_W := (List.range N).map (fun r => (ad r, E r))
theorem rlw_len {ad : Nat → Nat} {E : Nat → va_E} {N : Nat} : (rlw ad E N).length = N := by simp [rlw]
theorem rlw_at {ad : Nat → Nat} {E : Nat → va_E} {N r : Nat} (h : r < N) : (rlw ad E N)[r]? = some (ad r, E r) := by
  simp [rlw, h]
theorem rlw_inv {ad : Nat → Nat} {E : Nat → va_E} {N k : Nat} {q : Nat × va_E} (h : (rlw ad E N)[k]? = some q) : k < N ∧ q = (ad k, E k) := by
  have hk : k < N := by
    have := (List.getElem?_eq_some_iff.mp h).1
    rwa [rlw_len] at this
  rw [rlw_at hk] at h
  exact ⟨hk, (Option.some.inj h).symm⟩
theorem rlw_congr {ad : Nat → Nat} {E E' : Nat → va_E} {N : Nat} (h : ∀ r, r < N → E r = E' r) : rlw ad E N = rlw ad E' N := by
  apply List.map_congr_left
  intro r hr
  rw [h r (List.mem_range.mp hr)]
theorem rlw_set {ad : Nat → Nat} {E : Nat → va_E} {N r : Nat} {e : va_E} (h : r < N) : (rlw ad E N).set r (ad r, e) = rlw ad (va_up E r e) N := by
  apply List.ext_getElem?
  intro k
  by_cases hk : k = r
  · subst hk
    rw [List.getElem?_set_self (by rw [rlw_len]; exact h), rlw_at h, va_up_self]
  · rw [List.getElem?_set_ne (Ne.symm hk)]
    by_cases hN : k < N
    · rw [rlw_at hN, rlw_at hN, va_up_ne _ _ hk]
    · rw [List.getElem?_eq_none (by rw [rlw_len]; omega), List.getElem?_eq_none (by rw [rlw_len]; omega)]
theorem rlw_D {A : Nat → Prop} {ad : Nat → Nat} {E E' : Nat → va_E} {N : Nat} (h : va_D A (rlw ad E N)) : va_D A (rlw ad E' N) := by
  refine ⟨fun i j p q hp hq e => ?_, fun k q hq => ?_⟩
  · obtain ⟨hi, rfl⟩ := rlw_inv hp
    obtain ⟨hj, rfl⟩ := rlw_inv hq
    exact h.1 i j _ _ (rlw_at hi) (rlw_at hj) e
  · obtain ⟨hk, rfl⟩ := rlw_inv hq
    exact (show A (ad k) from h.2 k (ad k, E k) (rlw_at hk))
theorem rlw_A {ad : Nat → Nat} {E E' : Nat → va_E} {N sz q : Nat} (h : va_A (rlw ad E N) sz q) : va_A (rlw ad E' N) sz q := by
  rcases h with ⟨k, e, hk⟩ | h
  · obtain ⟨h1, h2⟩ := rlw_inv hk
    exact Or.inl ⟨k, E' k, by rw [rlw_at h1, (Prod.mk.inj h2).1]⟩
  · exact Or.inr h
/-- what a method may lean on beside its world: kept by warmer tables, by changes within A, by a smaller A -/
def ENok (EN : (Nat → Prop) → State → Heap → Prop) : Prop :=
  (∀ (A : Nat → Prop) (s U : State) (H : Heap), s.WarmedH U.vm → EN A s H → EN A U H) ∧
  (∀ (A : Nat → Prop) (s : State) (H H1 : Heap), EN A s H → (∀ a : Nat, a < H.size → ¬ A a → H1[a]? = H[a]?) → EN A s H1) ∧
  (∀ (A B : Nat → Prop) (s : State) (H : Heap), EN A s H → (∀ q, B q → A q) → EN B s H)
def EN0 : (Nat → Prop) → State → Heap → Prop := fun _ _ _ => True
theorem EN0_ok : ENok EN0 := ⟨fun _ _ _ _ _ _ => trivial, fun _ _ _ _ _ _ => trivial, fun _ _ _ _ _ _ => trivial⟩
/-- the world at a point of a method's walk -/
def WB (D : va_G) (tys : List (ClassId × FieldType)) (EN : (Nat → Prop) → State → Heap → Prop) (ad : Nat → Nat) (N : Nat) (A : Nat → Prop) (s : State) (E : Nat → va_E) (H : Heap) (locs : List Loc) : Prop :=
  va_K D vcl tys s ∧ va_P D vcl (rlw ad E N) H ∧ va_D A (rlw ad E N) ∧ va_S A s.heap H locs ∧ (∀ q, s.heap.size ≤ q → A q) ∧ EN A s s.heap
theorem WB.to {D : va_G} {tys : List (ClassId × FieldType)} {EN : (Nat → Prop) → State → Heap → Prop} {ad : Nat → Nat} {N : Nat} {A : Nat → Prop} {s : State} {E E' : Nat → va_E} {H : Heap} {locs : List Loc}
    (h : WB D tys EN ad N A s E H locs) (he : ∀ r, r < N → E r = E' r) : WB D tys EN ad N A s E' H locs := by
  obtain ⟨h1, h2, h3, h4⟩ := h
  rw [rlw_congr he] at h2 h3
  exact ⟨h1, h2, h3, h4⟩
def QM (D : va_G) (ad : Nat → Nat) (N : Nat) (A : Nat → Prop) (E' : Nat → va_E) (r : Option Value) : Array Value → State → Outcome → State → Prop :=
  fun _ st oc t => oc = .returned r ∧ va_P D vcl (rlw ad E' N) t.heap ∧ va_F A st t
/-- a method's contract: it makes nothing, answers r, and its world goes from E to E' -/
def RM (l : Launch) (y : MethodName) (cc : ByteArray) (nL : Nat) (ret : Option FieldType) (rm : Room) (D : va_G) (tys : List (ClassId × FieldType)) (EN : (Nat → Prop) → State → Heap → Prop) (av : List Value) (ad : Nat → Nat) (N : Nat) (E E' : Nat → va_E) (r : Option Value) : Prop :=
  ∀ sz : Nat, Met l y (.code y cc nL ret :: bw) rm
    (va_Pc av (fun U => U.heap.size = sz ∧ va_P D vcl (rlw ad E N) U.heap ∧ va_K D vcl tys U ∧ va_D (fun _ => True) (rlw ad E N) ∧ EN (va_A (rlw ad E N) sz) U U.heap))
    (QM D ad N (va_A (rlw ad E N) sz) E' r) 0 0 (va_A (rlw ad E N) sz)
theorem RM.of {l : Launch} {y : MethodName} {cc : ByteArray} {nL : Nat} {ret : Option FieldType} {rm : Room} {D : va_G} {tys : List (ClassId × FieldType)} {EN : (Nat → Prop) → State → Heap → Prop} {av : List Value} {ad : Nat → Nat} {N : Nat} {E E' : Nat → va_E} {r : Option Value}
    (hy : plainName y.cls = true) (hle : (lg_sl av).length ≤ nL)
    (body : ∀ (p : Program) (e : Env) (s : State) (m : MethodId) (below : List Frame) (meth : Method) (c : Code) (A : Nat → Prop) (ls : Array Slot) (args : Array Value) (Q0 : State → Prop),
      CallFix p m c cc nL s args bw y.cls → meth.sig.returnType = ret → meth.locks = false → Q0 = MQ below (QM D ad N A E' r) args s 0 0 A → WB D tys EN ad N A s E s.heap [] → lv_has ls nL (lv_args 0 av) →
      W p l e rm s m args below meth c s.heap [] 0 0 Q0 (F0 m 0 ls [])) : RM l y cc nL ret rm D tys EN av ad N E E' r := by
  intro sz
  refine Met.ofW (cc := cc) (maxL := nL) (ret := ret) hy rfl ?_
  intro p e s m args below meth c s₁ B hml hv
  obtain ⟨rfl, hsz, hP, hK, hD0, hEN⟩ := hv
  have hts := atoms_spec (ws := Cond.code y cc nL ret :: bw) B.pre
  have hown : s.vm.findClass y.cls = some m.cls := findClass_of_methodNamed B.named
  subst hsz
  have hl := lv_entry av (n := nL) hle
  rw [lg_entry_eq]
  exact body p e s m below meth c _ _ _ _ ⟨B.exec, B.bytes, hml, hown, fun w hw => hts w (List.mem_cons_of_mem _ hw)⟩ B.returns B.notSynchronized rfl ⟨hK, hP, hD0.self, va_S.rf, fun q h => Or.inr h, hEN⟩ hl
section RB
variable {p : Program} {l : Launch} {e : Env} {R : Room} {s : State} {m : MethodId} {args : Array Value} {below : List Frame} {meth : Method} {c : Code} {H : Heap} {locs : List Loc} {cells slots : Nat} {Q : State → Prop}
variable {cc : ByteArray} {pc nL : Nat} {ls : Array Slot} {rest : List Value} {D : va_G} {A : Nat → Prop} {tys : List (ClassId × FieldType)} {EN : (Nat → Prop) → State → Heap → Prop} {ad : Nat → Nat} {N : Nat} {E E' : Nat → va_E} {own : String}
theorem rb_get (S : CallFix p m c cc nL s args bw own) (wb : WB D tys EN ad N A s E H locs) (r0 : Nat) (hr : r0 < N) {ci : Nat} {fs : List Value} (hE : E r0 = .inr (ci, fs)) {C : String} {T : u_T} {NF : Nat} (hc : vcl[ci]? = some (C, T, NF)) (hin : ∀ w ∈ u_ws C T NF, w ∈ bw) (k : Nat) (hk : k < NF) {index : Nat}
    (hlink : Cond.fieldLink own index (T k).1 (T k).2.1 (T k).2.2.1 ∈ bw) {v : Value} (hv : fs[k]? = some v) (hdg : decode cc pc = .ok (.getfield index, 3))
    (kk : W p l e R s m args below meth c H locs cells slots Q (F0 m (pc + 3) ls (v :: rest))) : W p l e R s m args below meth c H locs cells slots Q (F0 m pc ls (.ref (ad r0) :: rest)) := by
  obtain ⟨hx, hb, -, hown, hts⟩ := S
  exact va_get (D := D) (ci := ci) (C := C) (T := T) (N := NF) hx hb hts hin hown wb.1 wb.2.1 r0 (by rw [rlw_at hr, hE]) hc k hk (hts _ hlink) (fun _ h => h) hv hdg kk
theorem rb_put (S : CallFix p m c cc nL s args bw own) (wb : WB D tys EN ad N A s E H locs) (r0 : Nat) (hr : r0 < N) {ci : Nat} {fs : List Value} (hE : E r0 = .inr (ci, fs)) {C : String} {T : u_T} {NF : Nat} (hc : vcl[ci]? = some (C, T, NF)) (hin : ∀ w ∈ u_ws C T NF, w ∈ bw) (ty0 : Nat → FieldType)
    (hty : ∀ k, k < NF → parseFieldDescriptor (T k).2.2.1 = some (ty0 k)) (hnm : ∀ a, a < NF → ∀ b, b < NF → a ≠ b → (T a).2.1 ≠ (T b).2.1) (k : Nat) (hk : k < NF) {index : Nat}
    (hlink : Cond.fieldLink own index (T k).1 (T k).2.1 (T k).2.2.1 ∈ bw) (hfin : (T k).2.2.2 = false) {v : Value} (hn : narrow (ty0 k) v = v) (hfit : fits (ty0 k) v = true) (hl : k < fs.length) (hE' : ∀ q, q < N → va_up E r0 (.inr (ci, fs.set k v)) q = E' q) (hdg : decode cc pc = .ok (.putfield index, 3))
    (kk : ∀ (H1 : Heap) (locs1 : List Loc), WB D tys EN ad N A s E' H1 locs1 → W p l e R s m args below meth c H1 locs1 cells slots Q (F0 m (pc + 3) ls rest)) : W p l e R s m args below meth c H locs cells slots Q (F0 m pc ls (v :: .ref (ad r0) :: rest)) := by
  obtain ⟨hx, hb, -, hown, hts⟩ := S
  obtain ⟨hK, hP, hD, hS, hA, hEN⟩ := wb
  refine va_put (D := D) (ci := ci) (C := C) (T := T) (N := NF) (ty := ty0 k) hx hb hts hin ty0 hty hnm hown hK hP hD hS r0 (by rw [rlw_at hr, hE]) hc k hk (hts _ hlink) (fun _ h => h) hfin (hty k hk) hn hfit hl hdg (fun H1 locs1 h1 h2 h3 => ?_)
  rw [rlw_set hr, rlw_congr hE'] at h1 h2
  exact kk H1 locs1 ⟨hK, h1, h2, h3, hA, hEN⟩
theorem rb_ald (S : CallFix p m c cc nL s args bw own) (wb : WB D tys EN ad N A s E H locs) (r0 : Nat) (hr : r0 < N) {cA : ClassId} {n : Nat} {f : Nat → Int32} (hE : E r0 = .inl (cA, n, .inl f)) (t0 : Nat) (ht : tys[t0]? = some (cA, .int)) (j : Nat) (hj : j < n) (hn : n < 2 ^ 31) {x : Int32} (hxv : f j = x) (hdg : decode cc pc = .ok (.iaload, 1))
    (kk : W p l e R s m args below meth c H locs cells slots Q (F0 m (pc + 1) ls (.int x :: rest))) : W p l e R s m args below meth c H locs cells slots Q (F0 m pc ls (.int (nI j) :: .ref (ad r0) :: rest)) := by
  obtain ⟨hx, hb, -, hown, hts⟩ := S
  refine va_iald (D := D) hx hb wb.1 wb.2.1 r0 t0 (by rw [rlw_at hr, hE]) ht (vp_in_nI hj hn) hdg ?_
  rw [nI_clamp (by omega), hxv]
  exact kk
theorem rb_ast (S : CallFix p m c cc nL s args bw own) (wb : WB D tys EN ad N A s E H locs) (r0 : Nat) (hr : r0 < N) {cA : ClassId} {n : Nat} {f : Nat → Int32} (hE : E r0 = .inl (cA, n, .inl f)) (t0 : Nat) (ht : tys[t0]? = some (cA, .int)) (j : Nat) (hj : j < n) (hn : n < 2 ^ 31) {x : Int32} (hE' : ∀ q, q < N → va_up E r0 (.inl (cA, n, .inl (upd f j x))) q = E' q) (hdg : decode cc pc = .ok (.iastore, 1))
    (kk : ∀ (H1 : Heap) (locs1 : List Loc), WB D tys EN ad N A s E' H1 locs1 → W p l e R s m args below meth c H1 locs1 cells slots Q (F0 m (pc + 1) ls rest)) : W p l e R s m args below meth c H locs cells slots Q (F0 m pc ls (.int x :: .int (nI j) :: .ref (ad r0) :: rest)) := by
  obtain ⟨hx, hb, -, hown, hts⟩ := S
  obtain ⟨hK, hP, hD, hS, hA, hEN⟩ := wb
  refine va_iast (D := D) hx hb hK hP hD hS r0 t0 (by rw [rlw_at hr, hE]) ht (vp_in_nI hj hn) hdg (fun H1 locs1 h1 h2 h3 => ?_)
  rw [nI_clamp (by omega), rlw_set hr, rlw_congr hE'] at h1 h2
  exact kk H1 locs1 ⟨hK, h1, h2, h3, hA, hEN⟩
theorem rb_recv (wb : WB D tys EN ad N A s E H locs) (r0 : Nat) (hr : r0 < N) {ci : Nat} {fs : List Value} (hE : E r0 = .inr (ci, fs)) {q : vw_C} (hc : vcl[ci]? = some q) : ∃ cell : Cell, H[ad r0]? = some cell ∧ cell.vm.isStatics = false ∧ s.vm.findClass q.1 = some cell.cls :=
  va_recv wb.1 wb.2.1 hc (by rw [rlw_at hr, hE])
/-- how a callee's contract is met at a call, and what holds behind it -/
theorem rb_pre (wb : WB D tys EN ad N A s E H locs) (hok : ENok EN) (av : List Value) :
    FrameBlind (va_Pc av (fun U => U.heap.size = H.size ∧ va_P D vcl (rlw ad E N) U.heap ∧ va_K D vcl tys U ∧ va_D (fun _ => True) (rlw ad E N) ∧ EN (va_A (rlw ad E N) H.size) U U.heap)) ∧
    ∀ U : State, U.heap = H → s.WarmedH U.vm → va_Pc av (fun U => U.heap.size = H.size ∧ va_P D vcl (rlw ad E N) U.heap ∧ va_K D vcl tys U ∧ va_D (fun _ => True) (rlw ad E N) ∧ EN (va_A (rlw ad E N) H.size) U U.heap) av.toArray U := by
  obtain ⟨hK, hP, hD, hS, hA, hEN⟩ := wb
  refine ⟨fun a U g mk q => ?_, fun U hU hW => ?_⟩
  · obtain ⟨q0, q1, qP, qK, qD, qE⟩ := q
    exact ⟨q0, q1, qP, va_K.moved (u := U) (U := U.calling g mk a) (Vm.Alike.refl U.vm) qK, qD, hok.1 _ U (U.calling g mk a) _ (State.WarmedH.refl U) qE⟩
  · refine ⟨rfl, by rw [hU], by rw [hU]; exact hP, va_K.moved hW.alike hK, hD.weaken (fun _ _ _ _ => trivial), ?_⟩
    rw [hU]
    refine hok.1 _ s U _ hW (hok.2.2 A _ s H (hok.2.1 A s s.heap H hEN hS.2.1) ?_)
    intro q h
    rcases h with ⟨k, e9, hk⟩ | h
    · exact hD.2 k _ hk
    · exact hA q (Nat.le_trans hS.1 h)
theorem rb_back (wb : WB D tys EN ad N A s E H locs) {r : Option Value} {g : JFrame} {st0 : List Value}
    (hr : va_Run p l e R s m args below meth c H locs cells slots 0 0 (F0 m pc ls st0) rest (QM D ad N (va_A (rlw ad E N) H.size) E' r #[]) (va_A (rlw ad E N) H.size))
    (kk : ∀ (H1 : Heap) (locs1 : List Loc), WB D tys EN ad N A s E' H1 locs1 → W p l e R s m args below meth c H1 locs1 cells slots Q (F0 m (pc + 3) ls (r.toList ++ rest))) : W p l e R s m args below meth c H locs cells slots Q (F0 m pc ls st0) := by
  obtain ⟨hK, hP, hD, hS, hA, hEN⟩ := wb
  have hF : ∀ q, va_A (rlw ad E N) H.size q → A q := by
    intro q h
    rcases h with ⟨k, e9, hk⟩ | h
    · exact hD.2 k _ hk
    · exact hA q (Nat.le_trans hS.1 h)
  intro T hT X
  obtain ⟨v, st₀, t, T', L, h0, X', hL, e1, e2, ⟨hv, hP1, hz, hk⟩, st⟩ := hr T hT X
  cases hv
  rw [h0] at hz hk
  obtain ⟨t2, a1, b1⟩ := kk T'.heap (locs ++ L) ⟨hK, by rw [e1]; exact hP1, rlw_D hD, ⟨Nat.le_trans hS.1 (by rw [e1]; exact hz), fun q h1 h2 => by rw [e1, hk q (Nat.lt_of_lt_of_le h1 hS.1) (fun z => h2 (hF q z))]; exact hS.2.1 q h1 h2, fun q hq => by
      rcases List.mem_append.mp hq with h | h
      · exact hS.2.2 q h
      · exact hF _ (hL q h)⟩, hA, hEN⟩ T' rfl X'
  exact ⟨t2, st t2 a1, b1⟩
/-- invokevirtual of a method of the receiver's own class -/
theorem rb_callV (S : CallFix p m c cc nL s args bw own) (wb : WB D tys EN ad N A s E H locs) (hok : ENok EN) {y : MethodName} {cc2 : ByteArray} {nL2 : Nat} {ret2 : Option FieldType} {rm2 : Room} {b : Nat} {As : List Value} {r : Option Value} {index na : Nat}
    (hM : RM l y cc2 nL2 ret2 rm2 D tys EN (.ref b :: As) ad N E E' r) (hwd : ∀ w ∈ ([.methodLink own index y, .instanceMethod y, .selects y.cls y y, .initialized y.cls, .code y cc2 nL2 ret2] : List Cond), w ∈ bw)
    (hrecv : ∃ cell : Cell, H[b]? = some cell ∧ cell.vm.isStatics = false ∧ s.vm.findClass y.cls = some cell.cls) (hd : y.cls = y.cls ∧ y.cls ≠ "java/lang/invoke/MethodHandle" ∧ y.cls ≠ "java/lang/invoke/VarHandle" ∧ (parseMethodDescriptor y.desc).map (fun d => d.parameters.length) = some na) (hna : As.length = na)
    (hz : rm2.cells = 0 ∧ rm2.slots = 0) (hR : rm2.frames + 1 ≤ R.frames ∧ 8 + (nL2 + 11) + rm2.locals ≤ R.locals) (hsize : ls.size = nL) (hroom : (rest.map fun v => v.category).sum ≤ 8) (hcs : cells ≤ R.cells ∧ slots ≤ R.slots) {st0 st1 : List Value} (hst : st0 = As.reverse ++ .ref b :: rest) (hst1 : r.toList ++ rest = st1) (hdg : decode cc pc = .ok (.invokevirtual index, 3))
    (kk : ∀ (H1 : Heap) (locs1 : List Loc), WB D tys EN ad N A s E' H1 locs1 → W p l e R s m args below meth c H1 locs1 cells slots Q (F0 m (pc + 3) ls st1)) : W p l e R s m args below meth c H locs cells slots Q (F0 m pc ls st0) := by
  subst hst; subst hst1; subst hna
  refine rb_back wb (g := F0 m pc ls []) (va_runV (As := As) (rest := rest) (n := As.length) (C := y.cls) (b := b) (bytes := cc2) (maxL := nL2) (ret := ret2) (index := index) S (hM H.size) (cwV As.length S.2.2.2.2 (bw_GI (fun _ h => h) ?_) rfl hz.1 hz.2 hd hR) ⟨(rb_pre wb hok _).1, hrecv, (rb_pre wb hok _).2⟩ rfl rfl hsize rfl (lv_room hroom) hdg hcs) kk
  intro w hw
  unfold wsV at hw
  rcases List.mem_append.mp hw with h | h
  · exact hwd w (by simp only [List.mem_cons, List.not_mem_nil, or_false] at h ⊢; rcases h with h | h | h | h <;> simp [h])
  · rcases List.mem_cons.mp h with h | h
    · exact hwd w (by rw [h]; simp)
    · exact h
theorem rb_iret {v v' : Int32} {Q0 : State → Prop} (hS : CallFix p m c cc nL s args bw own) (hr : meth.sig.returnType = some .int) (hlocks : meth.locks = false) (hQ : Q0 = MQ below (QM D ad N A E' (some (.int v'))) args s 0 0 A) (hv : v' = v) (wb : WB D tys EN ad N A s E H locs) (he : ∀ q, q < N → E q = E' q) (hdg : decode cc pc = .ok (.ireturn, 1)) :
    W p l e R s m args below meth c H locs 0 0 Q0 (F0 m pc ls [.int v]) := by
  subst hQ; subst hv
  obtain ⟨-, hP, -, hSS, -, -⟩ := wb.to he
  exact W.iret hS.1 hS.2.1 hr (fun t ht hW => ⟨rfl, by rw [ht]; exact hP, hSS.F ht⟩) hSS.2.2 hdg hlocks
theorem rb_zret {v v' : Int32} {Q0 : State → Prop} (hS : CallFix p m c cc nL s args bw own) (hr : meth.sig.returnType = some .boolean) (hlocks : meth.locks = false) (hQ : Q0 = MQ below (QM D ad N A E' (some (.int v'))) args s 0 0 A) (hv : v' = v) (hb1 : v = 0 ∨ v = 1) (wb : WB D tys EN ad N A s E H locs) (he : ∀ q, q < N → E q = E' q) (hdg : decode cc pc = .ok (.ireturn, 1)) :
    W p l e R s m args below meth c H locs 0 0 Q0 (F0 m pc ls [.int v]) := by
  subst hQ; subst hv
  obtain ⟨-, hP, -, hSS, -, -⟩ := wb.to he
  exact W.zret hS.1 hS.2.1 hr (by rcases hb1 with h | h <;> rw [h] <;> rfl) (fun t ht hW => ⟨rfl, by rw [ht]; exact hP, hSS.F ht⟩) hSS.2.2 hdg hlocks
theorem rb_vret {Q0 : State → Prop} (hS : CallFix p m c cc nL s args bw own) (hr : meth.sig.returnType = none) (hlocks : meth.locks = false) (hQ : Q0 = MQ below (QM D ad N A E' none) args s 0 0 A) (wb : WB D tys EN ad N A s E H locs) (he : ∀ q, q < N → E q = E' q) (hdg : decode cc pc = .ok (.return_, 1)) :
    W p l e R s m args below meth c H locs 0 0 Q0 (F0 m pc ls []) := by
  subst hQ
  obtain ⟨-, hP, -, hSS, -, -⟩ := wb.to he
  exact W.vret hS.1 hS.2.1 hr (fun t ht hW => ⟨rfl, by rw [ht]; exact hP, hSS.F ht⟩) hSS.2.2 hdg hlocks
/-- the top of the stack by another name -/
theorem nb_ren {x y : Int32} (h : x = y) (kk : W p l e R s m args below meth c H locs cells slots Q (F0 m pc ls (.int y :: rest))) : W p l e R s m args below meth c H locs cells slots Q (F0 m pc ls (.int x :: rest)) := h ▸ kk
theorem nb_icmp_ge (hexec : p.tables.exec = Jvm.exec) (hb : c.code = cc) {a b : Nat} {off : Int} {tgt : Nat} (hdg : decode cc pc = .ok (.if_icmp .ge off, 3)) (ht : (pc : Int) + off = (tgt : Int)) (ha : a < 2 ^ 31) (hb2 : b < 2 ^ 31)
    (kt : b ≤ a → W p l e R s m args below meth c H locs cells slots Q (F0 m tgt ls rest)) (kf : a < b → W p l e R s m args below meth c H locs cells slots Q (F0 m (pc + 3) ls rest)) : W p l e R s m args below meth c H locs cells slots Q (F0 m pc ls (.int (nI b) :: .int (nI a) :: rest)) :=
  lv_icmp_ge hexec hb hdg ht (fun h => kt ((nI_leI hb2 ha).mp h)) (fun h => kf (Nat.lt_of_not_le fun q => h ((nI_leI hb2 ha).mpr q)))
theorem nb_icmp_lt (hexec : p.tables.exec = Jvm.exec) (hb : c.code = cc) {a b : Nat} {off : Int} {tgt : Nat} (hdg : decode cc pc = .ok (.if_icmp .lt off, 3)) (ht : (pc : Int) + off = (tgt : Int)) (ha : a < 2 ^ 31) (hb2 : b < 2 ^ 31)
    (kt : a < b → W p l e R s m args below meth c H locs cells slots Q (F0 m tgt ls rest)) (kf : b ≤ a → W p l e R s m args below meth c H locs cells slots Q (F0 m (pc + 3) ls rest)) : W p l e R s m args below meth c H locs cells slots Q (F0 m pc ls (.int (nI b) :: .int (nI a) :: rest)) :=
  lv_icmp_lt hexec hb hdg ht (fun h => kt ((nI_ltI ha hb2).mp h)) (fun h => kf (Nat.le_of_not_lt fun q => h ((nI_ltI ha hb2).mpr q)))
theorem nb_icmp_gt (hexec : p.tables.exec = Jvm.exec) (hb : c.code = cc) {a b : Nat} {off : Int} {tgt : Nat} (hdg : decode cc pc = .ok (.if_icmp .gt off, 3)) (ht : (pc : Int) + off = (tgt : Int)) (ha : a < 2 ^ 31) (hb2 : b < 2 ^ 31)
    (kt : b < a → W p l e R s m args below meth c H locs cells slots Q (F0 m tgt ls rest)) (kf : a ≤ b → W p l e R s m args below meth c H locs cells slots Q (F0 m (pc + 3) ls rest)) : W p l e R s m args below meth c H locs cells slots Q (F0 m pc ls (.int (nI b) :: .int (nI a) :: rest)) :=
  lv_icmp_gt hexec hb hdg ht (fun h => kt ((nI_ltI hb2 ha).mp h)) (fun h => kf (Nat.le_of_not_lt fun q => h ((nI_ltI hb2 ha).mpr q)))
theorem nb_icmp_le (hexec : p.tables.exec = Jvm.exec) (hb : c.code = cc) {a b : Nat} {off : Int} {tgt : Nat} (hdg : decode cc pc = .ok (.if_icmp .le off, 3)) (ht : (pc : Int) + off = (tgt : Int)) (ha : a < 2 ^ 31) (hb2 : b < 2 ^ 31)
    (kt : a ≤ b → W p l e R s m args below meth c H locs cells slots Q (F0 m tgt ls rest)) (kf : b < a → W p l e R s m args below meth c H locs cells slots Q (F0 m (pc + 3) ls rest)) : W p l e R s m args below meth c H locs cells slots Q (F0 m pc ls (.int (nI b) :: .int (nI a) :: rest)) :=
  lv_icmp_le hexec hb hdg ht (fun h => kt ((nI_leI ha hb2).mp h)) (fun h => kf (Nat.lt_of_not_le fun q => h ((nI_leI ha hb2).mpr q)))
theorem nb_icmp_eq (hexec : p.tables.exec = Jvm.exec) (hb : c.code = cc) {a b : Nat} {off : Int} {tgt : Nat} (hdg : decode cc pc = .ok (.if_icmp .eq off, 3)) (ht : (pc : Int) + off = (tgt : Int)) (ha : a < 2 ^ 31) (hb2 : b < 2 ^ 31)
    (kt : a = b → W p l e R s m args below meth c H locs cells slots Q (F0 m tgt ls rest)) (kf : a ≠ b → W p l e R s m args below meth c H locs cells slots Q (F0 m (pc + 3) ls rest)) : W p l e R s m args below meth c H locs cells slots Q (F0 m pc ls (.int (nI b) :: .int (nI a) :: rest)) :=
  lv_icmp_eq hexec hb hdg ht (fun h => kt ((nI_eq ha hb2).mp h)) (fun h => kf (fun q => h ((nI_eq ha hb2).mpr q)))
theorem nb_icmp_ne (hexec : p.tables.exec = Jvm.exec) (hb : c.code = cc) {a b : Nat} {off : Int} {tgt : Nat} (hdg : decode cc pc = .ok (.if_icmp .ne off, 3)) (ht : (pc : Int) + off = (tgt : Int)) (ha : a < 2 ^ 31) (hb2 : b < 2 ^ 31)
    (kt : a ≠ b → W p l e R s m args below meth c H locs cells slots Q (F0 m tgt ls rest)) (kf : a = b → W p l e R s m args below meth c H locs cells slots Q (F0 m (pc + 3) ls rest)) : W p l e R s m args below meth c H locs cells slots Q (F0 m pc ls (.int (nI b) :: .int (nI a) :: rest)) :=
  lv_icmp_ne hexec hb hdg ht (fun h => kt (fun q => h ((nI_eq ha hb2).mpr q))) (fun h => kf ((nI_eq ha hb2).mp h))
end RB
theorem nI_s1 (j : Nat) : nI j + Int32.ofInt 1 = nI (j + 1) := nI_1 j
theorem i6_mul (a : Nat) : (6 : Int32) * nI a = nI (6 * a) := pk_mul 6 a
theorem i5_mul (a : Nat) : (5 : Int32) * nI a = nI (5 * a) := pk_mul 5 a
