/-! contracts of methods that throw: the world stays, one cell of six slots is new -/
def XM (D : va_G) (ad : Nat → Nat) (N : Nat) (A : Nat → Prop) (E : Nat → va_E) (X : String) : String → State → State → Prop :=
  fun Ec st t => Ec = X ∧ va_P D vcl (rlw ad E N) t.heap ∧ va_F A st t
def RX (l : Launch) (y : MethodName) (cc : ByteArray) (nL : Nat) (ret : Option FieldType) (rm : Room) (D : va_G) (tys : List (ClassId × FieldType)) (EN : (Nat → Prop) → State → Heap → Prop) (av : List Value) (ad : Nat → Nat) (N : Nat) (E : Nat → va_E) (X : String) : Prop :=
  ∀ sz : Nat, vx_Met l y (.code y cc nL ret :: bw) rm
    (va_Pc av (fun U => U.heap.size = sz ∧ va_P D vcl (rlw ad E N) U.heap ∧ va_K D vcl tys U ∧ va_D (fun _ => True) (rlw ad E N) ∧ EN (va_A (rlw ad E N) sz) U U.heap))
    (fun _ _ _ _ => False) (XM D ad N (va_A (rlw ad E N) sz) E X) 1 6 (va_A (rlw ad E N) sz)
theorem RX.of {l : Launch} {y : MethodName} {cc : ByteArray} {nL : Nat} {ret : Option FieldType} {rm : Room} {D : va_G} {tys : List (ClassId × FieldType)} {EN : (Nat → Prop) → State → Heap → Prop} {av : List Value} {ad : Nat → Nat} {N : Nat} {E : Nat → va_E} {X : String}
    (hy : plainName y.cls = true) (hle : (lg_sl av).length ≤ nL)
    (body : ∀ (p : Program) (e : Env) (s : State) (m : MethodId) (below : List Frame) (meth : Method) (c : Code) (A : Nat → Prop) (ls : Array Slot) (args : Array Value) (Q0 : State → Prop),
      CallFix p m c cc nL s args bw y.cls → (∀ x ∈ c.exceptionTable.toList, False) → meth.locks = false → Q0 = vx_MQ below (fun _ _ _ _ => False) (XM D ad N A E X) args s 1 6 A → WB D tys EN ad N A s E s.heap [] → lv_has ls nL (lv_args 0 av) →
      W p l e rm s m args below meth c s.heap [] 0 0 Q0 (F0 m 0 ls [])) : RX l y cc nL ret rm D tys EN av ad N E X := by
  intro sz
  refine vx_ofW (cc := cc) (maxL := nL) (ret := ret) hy rfl ?_
  intro p e s m args below meth c s₁ B hml htab hv
  obtain ⟨rfl, hsz, hP, hK, hD0, hEN⟩ := hv
  have hts := atoms_spec (ws := Cond.code y cc nL ret :: bw) B.pre
  have hown : s.vm.findClass y.cls = some m.cls := findClass_of_methodNamed B.named
  subst hsz
  have hl := lv_entry av (n := nL) hle
  rw [lg_entry_eq]
  exact body p e s m below meth c _ _ _ _ ⟨B.exec, B.bytes, hml, hown, fun w hw => hts w (List.mem_cons_of_mem _ hw)⟩ htab B.notSynchronized rfl ⟨hK, hP, hD0.self, va_S.rf, fun q h => Or.inr h, hEN⟩ hl
section RXR
variable {p : Program} {l : Launch} {e : Env} {R : Room} {s : State} {m : MethodId} {args : Array Value} {below : List Frame} {meth : Method} {c : Code} {H : Heap} {locs : List Loc} {Q0 : State → Prop}
variable {cc : ByteArray} {pc nL : Nat} {ls : Array Slot} {rest : List Value} {D : va_G} {A : Nat → Prop} {tys : List (ClassId × FieldType)} {EN : (Nat → Prop) → State → Heap → Prop} {ad : Nat → Nat} {N : Nat} {E : Nat → va_E} {own X : String}
/-- throw new X("text") -/
theorem rx_throw (S : CallFix p m c cc nL s args bw own) (wb : WB D tys ENC ad N A s E H locs) (hlt : l.stackTraces = false) {cls text : String} {names : List String} {ik is ic sa : Nat} (hcls : Bundle.fit cls = true) (hnames : ∀ n ∈ names, Bundle.fit n = true)
    (hk : Cond.classLink own ik cls ∈ bw) (hini : Cond.initialized cls ∈ bw) (hstr : vk_R own is text sa s) (ha1 : ∀ w ∈ (vx_atS own ic cls names).filter goodWord, w ∈ bw) (ha2 : ∀ w ∈ (vx_atS own ic cls names).filter (fun w => !goodWord w), w ∈ nwW) (hnt : ∀ w ∈ nwW, w.onTables = true)
    (hgood : ∀ w ∈ Cond.classLink own ik cls :: Cond.initialized cls :: vx_atS own ic cls names, vx_ot w = true) (hsize : ls.size = nL)
    (d0 : decode cc pc = .ok (.new ik, 3)) (d3 : decode cc (pc + 3) = .ok (.dup, 1)) (d4 : decode cc (pc + 4) = .ok (.ldc is, 2)) (d6 : decode cc (pc + 6) = .ok (.invokespecial ic, 3)) (d9 : decode cc (pc + 9) = .ok (.athrow, 1))
    (htab : ∀ x ∈ c.exceptionTable.toList, False) (hRframes : names.length + 3 < R.frames) (hRlocals : (rest.map fun v => v.category).sum + (13 * (names.length + 1) + 43) ≤ R.locals) (hRcells : 1 ≤ R.cells) (hRslots : 6 ≤ R.slots) (hlocks : meth.locks = false)
    (hQ : Q0 = vx_MQ below (fun _ _ _ _ => False) (XM D ad N A E cls) args s 1 6 A) :
    W p l e R s m args below meth c H locs 0 0 Q0 (F0 m pc ls rest) := by
  subst hQ
  obtain ⟨hx, hb, hml, hown, hts⟩ := S
  obtain ⟨hK, hP, hD, hS, hA, hEN⟩ := wb
  obtain ⟨hn1, -, hU, hN, -⟩ := hEN
  refine vx_throwS (A := A) (text := text) (sa := sa) hx hb hlt hown hcls hnames (hts _ hk) (hts _ hini) hstr (vx_hat (B := nwW) (fun w hw => hts w (ha1 w hw)) ha2 (fun w hw => va_Nw.use (hnt w hw) (hn1 w hw))) hgood hU hN hS (by rw [hml]; exact hsize) d0 d3 d4 d6 d9 (fun x hx => (htab x hx).elim) hRframes hRlocals (by omega) (by omega) hlocks ?_ hS.2.2 (Nat.le_refl _) (Nat.le_refl _)
  intro t _ hz hq
  refine ⟨rfl, hP.kept (fun k q hk => hq q.1 ((hP k q hk).lt)), ?_⟩
  exact ⟨Nat.le_trans hS.1 hz, fun q h1 h2 => (hq q (Nat.lt_of_lt_of_le h1 hS.1)).trans (hS.2.1 q h1 h2)⟩
theorem rx_back (wb : WB D tys EN ad N A s E H locs) {st0 : List Value} (hlk : meth.locks = false) (htab : ∀ x ∈ c.exceptionTable.toList, False)
    (hQ : Q0 = vx_MQ below (fun _ _ _ _ => False) (XM D ad N A E X) args s 1 6 A)
    (hr : vx_Run p l e R s m args below meth c H locs 0 0 1 6 (F0 m pc ls st0) rest (fun _ _ _ => False) (XM D ad N (va_A (rlw ad E N) H.size) E X) (va_A (rlw ad E N) H.size)) :
    W p l e R s m args below meth c H locs 0 0 Q0 (F0 m pc ls st0) := by
  subst hQ
  obtain ⟨hK, hP, hD, hS, hA, hEN⟩ := wb
  have hF : ∀ q, va_A (rlw ad E N) H.size q → A q := by
    intro q h
    rcases h with ⟨k, e9, hk⟩ | h
    · exact hD.2 k _ hk
    · exact hA q (Nat.le_trans hS.1 h)
  intro T hT X0
  rcases hr T hT X0 with ⟨v, st₀, t, T', L, h0, X', hL, e1, e2, hf, st⟩ | ⟨q, st₀, t, T', L, Ec, ce, h0, X', hL, e1, e2, ⟨hE, hP1, hz, hk⟩, hce, hcv, hcl, st⟩
  · exact hf.elim
  · rw [h0] at hz hk
    have hS1 : va_S A s.heap T'.heap (locs ++ L) := ⟨Nat.le_trans hS.1 (by rw [e1]; exact hz), fun q h1 h2 => by rw [e1, hk q (Nat.lt_of_lt_of_le h1 hS.1) (fun z => h2 (hF q z))]; exact hS.2.1 q h1 h2, fun q hq => by
      rcases List.mem_append.mp hq with h | h
      · exact hS.2.2 q h
      · exact hF _ (hL q h)⟩
    have k : vx_W p l e R s m args below meth c T'.heap (locs ++ L) (0 + 1) (0 + 6) (vx_MQ below (fun _ _ _ _ => False) (XM D ad N A E X) args s 1 6 A) (F0 m pc ls rest) q :=
      vx_out (fun x hx => (htab x hx).elim) hlk (by rw [e1]; exact hce) hcv hcl (fun t2 h2 _ => ⟨hE, by rw [h2, e1]; exact hP1, hS1.F h2⟩) hS1.2.2 (Nat.le_refl _) (Nat.le_refl _)
    obtain ⟨t2, a1, b1⟩ := k T' rfl X'
    exact ⟨t2, st.trans a1, b1⟩
theorem rx_callS (S : CallFix p m c cc nL s args bw own) (wb : WB D tys EN ad N A s E H locs) (hok : ENok EN) {y : MethodName} {cc2 : ByteArray} {nL2 : Nat} {ret2 : Option FieldType} {rm2 : Room} {As : List Value} {index na : Nat}
    (hM : RX l y cc2 nL2 ret2 rm2 D tys EN As ad N E X) (hwd : ∀ w ∈ ([.methodLink own index y, .static y, .initialized y.cls, .code y cc2 nL2 ret2] : List Cond), w ∈ bw)
    (hd : y.cls = y.cls ∧ y.cls ≠ "java/lang/invoke/MethodHandle" ∧ y.cls ≠ "java/lang/invoke/VarHandle" ∧ (parseMethodDescriptor y.desc).map (fun d => d.parameters.length) = some na) (hna : As.length = na)
    (hz : rm2.cells = 1 ∧ rm2.slots = 6) (hR : rm2.frames + 1 ≤ R.frames ∧ 8 + (nL2 + 11) + rm2.locals ≤ R.locals) (hsize : ls.size = nL) (hroom : (rest.map fun v => v.category).sum ≤ 8) (hcs : 1 ≤ R.cells ∧ 6 ≤ R.slots) {st0 : List Value} (hst : st0 = As.reverse ++ rest) (hdg : decode cc pc = .ok (.invokestatic index, 3))
    (hlk : meth.locks = false) (htab : ∀ x ∈ c.exceptionTable.toList, False) (hQ : Q0 = vx_MQ below (fun _ _ _ _ => False) (XM D ad N A E X) args s 1 6 A) : W p l e R s m args below meth c H locs 0 0 Q0 (F0 m pc ls st0) := by
  subst hst; subst hna
  refine rx_back wb hlk htab hQ (vx_runS (As := As) (rest := rest) (n := As.length) (bytes := cc2) (maxL := nL2) (ret := ret2) (index := index) S (hM H.size) (va_cwS As.length S.2.2.2.2 (bw_GI (fun _ h => h) ?_) rfl hz.1 hz.2 hd.2 hR) (rb_pre wb hok _) rfl rfl hsize rfl (lv_room hroom) hdg (by omega))
  intro w hw
  unfold va_wsS at hw
  rcases List.mem_append.mp hw with h | h
  · exact hwd w (by simp only [List.mem_cons, List.not_mem_nil, or_false] at h ⊢; rcases h with h | h | h <;> simp [h])
  · rcases List.mem_cons.mp h with h | h
    · exact hwd w (by rw [h]; simp)
    · exact h
theorem rx_callV (S : CallFix p m c cc nL s args bw own) (wb : WB D tys EN ad N A s E H locs) (hok : ENok EN) {y : MethodName} {cc2 : ByteArray} {nL2 : Nat} {ret2 : Option FieldType} {rm2 : Room} {b : Nat} {As : List Value} {index na : Nat}
    (hM : RX l y cc2 nL2 ret2 rm2 D tys EN (.ref b :: As) ad N E X) (hwd : ∀ w ∈ ([.methodLink own index y, .instanceMethod y, .selects y.cls y y, .initialized y.cls, .code y cc2 nL2 ret2] : List Cond), w ∈ bw)
    (hrecv : ∃ cell : Cell, H[b]? = some cell ∧ cell.vm.isStatics = false ∧ s.vm.findClass y.cls = some cell.cls) (hd : y.cls = y.cls ∧ y.cls ≠ "java/lang/invoke/MethodHandle" ∧ y.cls ≠ "java/lang/invoke/VarHandle" ∧ (parseMethodDescriptor y.desc).map (fun d => d.parameters.length) = some na) (hna : As.length = na)
    (hz : rm2.cells = 1 ∧ rm2.slots = 6) (hR : rm2.frames + 1 ≤ R.frames ∧ 8 + (nL2 + 11) + rm2.locals ≤ R.locals) (hsize : ls.size = nL) (hroom : (rest.map fun v => v.category).sum ≤ 8) (hcs : 1 ≤ R.cells ∧ 6 ≤ R.slots) {st0 : List Value} (hst : st0 = As.reverse ++ .ref b :: rest) (hdg : decode cc pc = .ok (.invokevirtual index, 3))
    (hlk : meth.locks = false) (htab : ∀ x ∈ c.exceptionTable.toList, False) (hQ : Q0 = vx_MQ below (fun _ _ _ _ => False) (XM D ad N A E X) args s 1 6 A) : W p l e R s m args below meth c H locs 0 0 Q0 (F0 m pc ls st0) := by
  subst hst; subst hna
  refine rx_back wb hlk htab hQ (vx_runV (As := As) (rest := rest) (n := As.length) (C := y.cls) (b := b) (bytes := cc2) (maxL := nL2) (ret := ret2) (index := index) S (hM H.size) (cwV As.length S.2.2.2.2 (bw_GI (fun _ h => h) ?_) rfl hz.1 hz.2 hd hR) ⟨(rb_pre wb hok _).1, hrecv, (rb_pre wb hok _).2⟩ rfl rfl hsize rfl (lv_room hroom) hdg (by omega))
  intro w hw
  unfold wsV at hw
  rcases List.mem_append.mp hw with h | h
  · exact hwd w (by simp only [List.mem_cons, List.not_mem_nil, or_false] at h ⊢; rcases h with h | h | h | h <;> simp [h])
  · rcases List.mem_cons.mp h with h | h
    · exact hwd w (by rw [h]; simp)
    · exact h
end RXR
theorem nw_tab : ∀ w ∈ nwW, w.onTables = true := by decide +kernel
set_option maxRecDepth 20000 in
theorem atA_1 : ∀ w ∈ (vx_atS "LetterAuction" 164 "java/lang/IllegalArgumentException" ["java/lang/RuntimeException", "java/lang/Exception"]).filter goodWord, w ∈ bw := by decide +kernel
set_option maxRecDepth 20000 in
theorem atA_2 : ∀ w ∈ (vx_atS "LetterAuction" 164 "java/lang/IllegalArgumentException" ["java/lang/RuntimeException", "java/lang/Exception"]).filter (fun w => !goodWord w), w ∈ nwW := by decide +kernel
set_option maxRecDepth 20000 in
theorem atA_3 : ∀ w ∈ Cond.classLink "LetterAuction" 160 "java/lang/IllegalArgumentException" :: Cond.initialized "java/lang/IllegalArgumentException" :: (vx_atS "LetterAuction" 164 "java/lang/IllegalArgumentException" ["java/lang/RuntimeException", "java/lang/Exception"]), vx_ot w = true := by decide +kernel
set_option maxRecDepth 20000 in
theorem atS_1 : ∀ w ∈ (vx_atS "LetterAuction" 169 "java/lang/IllegalStateException" ["java/lang/RuntimeException", "java/lang/Exception"]).filter goodWord, w ∈ bw := by decide +kernel
set_option maxRecDepth 20000 in
theorem atS_2 : ∀ w ∈ (vx_atS "LetterAuction" 169 "java/lang/IllegalStateException" ["java/lang/RuntimeException", "java/lang/Exception"]).filter (fun w => !goodWord w), w ∈ nwW := by decide +kernel
set_option maxRecDepth 20000 in
theorem atS_3 : ∀ w ∈ Cond.classLink "LetterAuction" 165 "java/lang/IllegalStateException" :: Cond.initialized "java/lang/IllegalStateException" :: (vx_atS "LetterAuction" 169 "java/lang/IllegalStateException" ["java/lang/RuntimeException", "java/lang/Exception"]), vx_ot w = true := by decide +kernel
set_option maxRecDepth 20000 in
theorem atL_1 : ∀ w ∈ (vx_atS "LetterAuction" 157 "java/lang/IndexOutOfBoundsException" ["java/lang/RuntimeException", "java/lang/Exception"]).filter goodWord, w ∈ bw := by decide +kernel
set_option maxRecDepth 20000 in
theorem atL_2 : ∀ w ∈ (vx_atS "LetterAuction" 157 "java/lang/IndexOutOfBoundsException" ["java/lang/RuntimeException", "java/lang/Exception"]).filter (fun w => !goodWord w), w ∈ nwW := by decide +kernel
set_option maxRecDepth 20000 in
theorem atL_3 : ∀ w ∈ Cond.classLink "LetterAuction" 153 "java/lang/IndexOutOfBoundsException" :: Cond.initialized "java/lang/IndexOutOfBoundsException" :: (vx_atS "LetterAuction" 157 "java/lang/IndexOutOfBoundsException" ["java/lang/RuntimeException", "java/lang/Exception"]), vx_ot w = true := by decide +kernel
