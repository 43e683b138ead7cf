/-! THE CLAIM OUT OF ONE WALK OF THE LAW'S BODY. (starting text: the skeleton) -/
def R_law : String := "LetterAuctionLaw"
def lw_P (b : Addr) (xs : List Int32) (args : Array Value) (s : State) : Prop := args = #[.ref b] ∧ s.IntsAt b xs ∧ xs.length ≤ 2050 ∧ (Jvm.Cond.and given_1 narrow_1).before args s = true
def lw_Q (_ : Array Value) (s : State) (o : Outcome) (t : State) : Prop := o = .returned (some (.int 1)) ∧ Framed s o t [] 601475 7291645
def lw_Z (below : List Frame) (a : Array Value) (s : State) : State → Prop := fun t => ∃ o, t.status = .running ∧ Ended t below o ∧ lw_Q a s o t
/-- the law's own end, with 1 on the stack, nothing written that was there before, its room as the claim has it -/
theorem lw_ret {p : Program} {l : Launch} {e : Env} {s : State} {m : MethodId} {below : List Frame} {meth : Method} {c : Code} {b : Nat} (hx : p.tables.exec = Jvm.exec) (hb : c.code = code) (hr : meth.sig.returnType = ret) (hlocks : meth.locks = false) {pc : Nat} {H : Heap} {ls : Array Slot} (hdg : decode code pc = .ok (.ireturn, 1)) : W p l e room_1 s m #[Value.ref b] below meth c H [] 601475 7291645 (lw_Z below #[Value.ref b] s) (F0 m pc ls [.int 1]) := by
  intro T hT X
  obtain ⟨fs, hret, hrun, hended, hW, hframe⟩ := X.leave (v := some (.int 1)) (hlocks := hlocks) (fun h => by rw [hr] at h; cases h)
  have hmeth' : T.vm.method? m = some meth := X.method'
  refine ⟨T.setFrames fs, ?_, .returned (some (.int 1)), hrun, hended, rfl, ⟨_, rfl⟩, hW, hframe⟩
  jvm_step X.here [X.here.top, hx, hb, hdg, hmeth', hr, ret, narrow_b1]
  (try refine ⟨rfl, ?_⟩); (try refine ⟨rfl, ?_⟩)
  first | (intro acts; rw [hret _ acts rfl rfl rfl]) | rw [hret _ _ rfl rfl rfl]
  exact Steps.refl _
/-- what holds at the law's entry: the machine, the code, the tables' words (any of lw_tbl by 'hts w (by decide +kernel)'), the script of L ints xs at the cell b, what the Statement gives of the start (any of its parts by flat_of_before) -/
def lw_At (p : Program) (s : State) (m : MethodId) (meth : Method) (c : Code) (b L : Nat) (xs : Nat → Int32) : Prop :=
  p.tables.exec = Jvm.exec ∧ c.code = code ∧ meth.sig.returnType = ret ∧ c.maxLocals = 7 ∧ s.vm.findClass R_law = some m.cls ∧ (∀ w ∈ lw_tbl, w.before #[Value.ref b] s = true) ∧ va_X b L xs s s.heap ∧ b < s.heap.size ∧ meth.locks = false ∧ (Jvm.Cond.and given_1 narrow_1).before #[Value.ref b] s = true
theorem hdX3_init : yX3_init.cls = yX3_init.cls ∧ yX3_init.cls ≠ "java/lang/invoke/MethodHandle" ∧ yX3_init.cls ≠ "java/lang/invoke/VarHandle" ∧ (parseMethodDescriptor yX3_init.desc).map (fun d => d.parameters.length) = some 2 := by decide +kernel
theorem hdX4_init : yX4_init.cls = yX4_init.cls ∧ yX4_init.cls ≠ "java/lang/invoke/MethodHandle" ∧ yX4_init.cls ≠ "java/lang/invoke/VarHandle" ∧ (parseMethodDescriptor yX4_init.desc).map (fun d => d.parameters.length) = some 2 := by decide +kernel
set_option maxHeartbeats 4000000 in
set_option maxRecDepth 100000 in
theorem whole_body {p : Program} {l : Launch} {e : Env} {s : State} {m : MethodId} {args : Array Value} {below : List Frame} {meth : Method} {c0 : Code} {Q : State → Prop} {ls : Array Slot} {D : va_G} {A : Nat → Prop} {cI cC cD : ClassId} {b L : Nat} {xs : Nat → Int32} (hlt : l.stackTraces = false) (S : CallFix p m c0 cL_law 7 s args bw "LetterAuctionLaw") (hX : va_X b L xs s s.heap) (hbl : b < s.heap.size) (hbA : ¬ A b) (hL : L ≤ 2050)
    (hend : ∀ (H : Heap) (locs : List Loc) (ls : Array Slot), va_S A s.heap H locs → W p l e room_1 s m args below meth c0 H locs 601475 7291645 Q (F0 m 975 ls []))
    (hK : va_K D vcl (ty3 cI cC cD) s) (hEN : ENC A s s.heap) (hA : ∀ q, s.heap.size ≤ q → A q) (hao0 : va_AO RX0 s) (hao1 : va_AO RX1 s) (hl : lv_has ls 7 [(0, .ref b)]) : W p l e room_1 s m args below meth c0 s.heap [] 0 0 Q (F0 m 0 ls []) := by
  have hx := S.1
  have hb := S.2.1
  have hml := S.2.2.1
  have hown := S.2.2.2.1
  have hts := S.2.2.2.2
  have hnw : ∀ w ∈ nwW, va_Nw w s := hEN.1
  obtain ⟨x, hvx⟩ : ∃ x, (if 0 < L then xs 0 else 0) = x := ⟨_, rfl⟩
  obtain ⟨y, hvy⟩ : ∃ y, (if 1 < L then xs 1 else 0) = y := ⟨_, rfl⟩
  obtain ⟨n, hcl⟩ := clampd_ex x
  obtain ⟨ph, hph, hph3⟩ := phst_ex y
  have hn := clampd_le hcl
  have hP : va_P D vcl [] s.heap := fun k q hq => nomatch hq
  have hD : va_D A [] := ⟨fun i j p q hp => (nomatch hp), fun k q hq => (nomatch hq)⟩
  have hS : va_S A s.heap s.heap [] := va_S.rf
  refine va_new (ci := 3) (fs := [.int 0, .null, .null, .null, .null, .int 0]) (C := RX3) (T := TX3) (N := 6) hx hb hts in3 tyX3 tyX3_ok hown (hts _ bw_45) (hts _ bw_46) (hts _ bw_32) hK hP hD hS hA rfl (fun j hj => by rcases (show j = 0 ∨ j = 1 ∨ j = 2 ∨ j = 3 ∨ j = 4 ∨ j = 5 by omega) with rfl | rfl | rfl | rfl | rfl | rfl <;> rfl) (by show 0 + 1 ≤ 601475; omega) (by show 0 + 6 ≤ 7291645; omega) dL_law_0 (fun q1 H hP hD hS => ?_)
  have hP : va_P D vcl [(q1, .inr (3, [.int 0, .null, .null, .null, .null, .int 0]))] H := hP
  have hD : va_D A [(q1, .inr (3, [.int 0, .null, .null, .null, .null, .int 0]))] := hD
  refine lv_dup hx hb dL_law_3 rfl ?_
  refine lv_aload_n hx hb dL_law_4 rfl (lv_at hl 0 rfl) ?_
  refine lv_iconst (v := nI 0) hx hb dL_law_5 (by decide) ?_
  refine ls_cell S hX hbl hbA hL hA hP hS 0 (by omega) x hvx hl.1 (Nat.le_of_ble_eq_true rfl) ⟨by omega, by omega⟩ dL_law_6 (fun H locs hP hS => ?_)
  refine lv_aload_n hx hb dL_law_9 rfl (lv_at hl 0 rfl) ?_
  refine lv_iconst (v := nI 1) hx hb dL_law_10 (by decide) ?_
  refine ls_cell S hX hbl hbA hL hA hP hS 1 (by omega) y hvy hl.1 (Nat.le_of_ble_eq_true rfl) ⟨by omega, by omega⟩ dL_law_11 (fun H locs hP hS => ?_)
  have hF : ∀ q, va_A [(q1, .inr (3, [.int 0, .null, .null, .null, .null, .int 0]))] H.size q → A q := fun q h => lp_in hD hS hA h
  have hDt : va_D (fun _ => True) [(q1, .inr (3, [.int 0, .null, .null, .null, .null, .int 0]))] := ⟨hD.1, fun _ _ _ => trivial⟩
  refine va_callv (va_runI (As := [.int x, .int y]) (rest := [.ref q1]) (n := 2) S (c_init l D cI cC cD q1 H.size n ph x y mA hcl hph mA_ok) ⟨callB_of 2 hts (bw_GI (fun _ h => h) (List.forall_mem_cons.mpr ⟨bw_49, fun _ h => h⟩)) rfl rfl rfl (hts _ bw_32) (hts _ bw_47) hdX3_init.2 ⟨by decide, by decide⟩, rfl, hts _ bw_48⟩
    ⟨fun a U g mk q => by obtain ⟨q0, q1, qP, qK, qD, qN, qa, qb⟩ := q; exact ⟨q0, q1, qP, va_K.moved (u := U) (U := U.calling g mk a) (Vm.Alike.refl U.vm) qK, qD, fun w hw => nw_warm (s := U) (U := U.calling g mk a) (State.WarmedH.refl U) w hw (qN w hw), va_AO.moved (u := U) (U := U.calling g mk a) (Vm.Alike.refl U.vm) qa, va_AO.moved (u := U) (U := U.calling g mk a) (Vm.Alike.refl U.vm) qb⟩,
      fun U hU hW => ⟨rfl, by rw [hU], by rw [hU]; exact hP, va_K.moved hW.alike hK, hDt, fun w hw => nw_warm hW w hw (hnw w hw), va_AO.moved hW.alike hao0, va_AO.moved hW.alike hao1⟩⟩ rfl rfl hl.1 rfl (lv_room (Nat.le_of_ble_eq_true rfl)) dL_law_14 ⟨by show 0 + 1 + 29 ≤ 601475; omega, by show 0 + 6 + 544 ≤ 7291645; omega⟩) hS (fun q _ h => hF q h) hF (fun u1 t H1 locs ht hvm hw hB hz1 hk1 hS => ?_)
  obtain ⟨hP1, hD1⟩ := hB
  rw [ht] at hP1
  have hP9 : va_P D vcl (rlw u1 (cE u1 cI cC cD n ph 0 mA) (4 * n + 6)) H1 := hP1
  have hD9 : va_D A (rlw u1 (cE u1 cI cC cD n ph 0 mA) (4 * n + 6)) := ⟨hD1.1, fun k q hq => hF _ (hD1.2 k q hq)⟩
  have hS9 := hS
  subst hw
  refine lv_astore_n (lv' := [(1, .ref (u1 0)), (0, .ref b)]) hx hb dL_law_17 rfl hl (by decide) rfl (fun ls hl => ?_)
  refine va_new (ci := 4) (fs := [.int 0, .int 0, .int 0, .null, .null, .null, .null, .null, .null, .null, .null, .null, .int 0, .null, .null]) (C := RX4) (T := TX4) (N := 15) hx hb hts in4 tyX4 tyX4_ok hown (hts _ bw_452) (hts _ bw_453) (hts _ bw_37) hK hP9 hD9 hS9 hA rfl (fun j hj => by rcases (show j = 0 ∨ j = 1 ∨ j = 2 ∨ j = 3 ∨ j = 4 ∨ j = 5 ∨ j = 6 ∨ j = 7 ∨ j = 8 ∨ j = 9 ∨ j = 10 ∨ j = 11 ∨ j = 12 ∨ j = 13 ∨ j = 14 by omega) with rfl | rfl | rfl | rfl | rfl | rfl | rfl | rfl | rfl | rfl | rfl | rfl | rfl | rfl | rfl <;> rfl) (by show 0 + 1 + 29 + 1 ≤ 601475; omega) (by show 0 + 6 + 544 + 15 ≤ 7291645; omega) dL_law_18 (fun q2 H hP hD hS => ?_)
  refine lv_dup hx hb dL_law_21 rfl ?_
  refine lv_aload_n hx hb dL_law_22 rfl (lv_at hl 1 rfl) ?_
  refine lv_iconst (v := nI 0) hx hb dL_law_23 (by decide) ?_
  refine ls_cell S hX hbl hbA hL hA hP hS 0 (by omega) x hvx hl.1 (Nat.le_of_ble_eq_true rfl) ⟨by omega, by omega⟩ dL_law_24 (fun H locs hP hS => ?_)
  refine lv_aload_n hx hb dL_law_27 rfl (lv_at hl 1 rfl) ?_
  refine lv_iconst (v := nI 1) hx hb dL_law_28 (by decide) ?_
  refine ls_cell S hX hbl hbA hL hA hP hS 1 (by omega) y hvy hl.1 (Nat.le_of_ble_eq_true rfl) ⟨by omega, by omega⟩ dL_law_29 (fun H locs hP hS => ?_)
  have hPc := last_P hP
  have hDc := last_D hD
  have hFc := last_F hD hS hA
  refine va_callv (va_runI (As := [.int x, .int y]) (rest := [.ref q2]) (n := 2) S (m_init l D cI cC cD q2 H.size n ph x y hcl hph) ⟨callB_of 2 hts (bw_GI (fun _ h => h) (List.forall_mem_cons.mpr ⟨bw_456, fun _ h => h⟩)) rfl rfl rfl (hts _ bw_37) (hts _ bw_454) hdX4_init.2 ⟨by decide, by decide⟩, rfl, hts _ bw_455⟩
    ⟨fun a U g mk q => by obtain ⟨q0, q1, qP, qK, qD⟩ := q; exact ⟨q0, q1, qP, va_K.moved (u := U) (U := U.calling g mk a) (Vm.Alike.refl U.vm) qK, qD⟩,
      fun U hU hW => ⟨rfl, by rw [hU], by rw [hU]; exact hPc, va_K.moved hW.alike hK, hDc⟩⟩ rfl rfl hl.1 rfl (lv_room (Nat.le_of_ble_eq_true rfl)) dL_law_32 ⟨by show 0 + 1 + 29 + 1 + 11 ≤ 601475; omega, by show 0 + 6 + 544 + 15 + 718 ≤ 7291645; omega⟩) hS (fun q _ h => hFc q h) hFc (fun u2 t H2 locs ht hvm hw hB hz1 hk1 hS => ?_)
  obtain ⟨hP1, hD1⟩ := hB
  rw [ht] at hP1
  obtain ⟨hP8, hD8⟩ := join_last hP hD hk1 hFc hP1 hD1
  have hS8 := hS
  subst hw
  refine lv_astore_n (lv' := [(2, .ref (u2 0)), (1, .ref (u1 0)), (0, .ref b)]) hx hb dL_law_35 rfl hl (by decide) rfl (fun ls hl => ?_)
  refine lv_iconst (v := nI 1) hx hb dL_law_36 (by decide) ?_
  refine va_newa (D := D) (atype := .long) (ty := .long) (N' := 1) (a0 := (1, .inr (.inl (fun _ => 0)))) hx hb (hts _ bw_612) rfl hK hP8 hD8 hS8 hA (fun cA => rfl) (nI_pos (by omega)) (nI_clamp (by omega)) (by show 1 * 8 ≤ 536870912; omega) (by show 0 + 1 + 29 + 1 + 11 + 1 ≤ 601475; omega) (by show 0 + 6 + 544 + 15 + 718 + 1 ≤ 7291645; omega) dL_law_37 (fun o cJ H hK2 hP hD hS => ?_)
  have hKJ : va_K D vcl [(cJ, .long)] s := hK2.sub [3] rfl
  refine lv_astore_n (lv' := [(3, .ref o), (2, .ref (u2 0)), (1, .ref (u1 0)), (0, .ref b)]) hx hb dL_law_39 rfl hl (by decide) rfl (fun ls hl => ?_)
  refine lv_iconst (v := nI 2) hx hb dL_law_40 (by decide) ?_
  refine lv_istore (lv' := [(4, .int (nI 2)), (3, .ref o), (2, .ref (u2 0)), (1, .ref (u1 0)), (0, .ref b)]) hx hb dL_law_41 hl (by decide) rfl (fun ls hl => ?_)
  exact law_loop (n := n) (ad1 := u1) (ad2 := u2) (o := o) (cJ := cJ) (D := D) (cI := cI) (cC := cC) (cD := cD) hlt S hX hbl hbA hL hend 513 0 _ _ ph 0 mA 0 (fun _ => 0) H _ ls (by omega) (by omega) (by omega) (by omega) ⟨hK, hKJ, swap_P hP, swap_D hD, hS, hA, hEN⟩ (lv_sub hl [4, 3, 2, 1, 0] rfl) (iv_init hn.1 hn.2 hph3 mA_ok)
/-- from the entry, for every script of at most 2050 ints, the law comes to its end with true -/
theorem whole_start {p : Program} {e : Env} {s : State} {m : MethodId} {below : List Frame} {meth : Method} {c : Code} (l : Launch) (hlt : l.stackTraces = false) {b L : Nat} {xs : Nat → Int32} (hL : L ≤ 2050) (C0 : lw_At p s m meth c b L xs) : W p l e room_1 s m #[Value.ref b] below meth c s.heap [] 0 0 (lw_Z below #[Value.ref b] s) (entryFrame m ([Value.ref b] : List Value).toArray 7) := by
  obtain ⟨hx, hb, hret, hml, hown, hts0, hX, hbl, hlk, hgv⟩ := C0
  have hts : ∀ w ∈ bw, w.before #[Value.ref b] s = true := fun w hw => hts0 w (bw_in hw)
  obtain ⟨D, cI, cC, cD, hK⟩ := st_K hts0
  have hEN : ENC (fun q => s.heap.size ≤ q) s s.heap := st_EN hts0 hgv (fun a h => Nat.not_le.mpr h)
  have hl := lv_entry [Value.ref b] (n := 7) (Nat.le_of_ble_eq_true rfl)
  rw [lg_entry_eq]
  refine whole_body (A := fun q => s.heap.size ≤ q) (D := D) (cI := cI) (cC := cC) (cD := cD) hlt ⟨hx, hb, hml, hown, hts⟩ hX hbl (Nat.not_le.mpr hbl) hL (fun H locs ls hS => ?_) hK hEN (fun _ h => h) (va_AO.of (hts0 _ lw_60)) (va_AO.of (hts0 _ lw_62)) hl
  refine va_forget (fun q hq => hS.2.2 q hq) ?_
  refine lv_iconst (v := 1) hx hb dL_law_975 (by decide) ?_
  exact lw_ret hx hb hret hlk dL_law_976
