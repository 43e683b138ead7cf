/-! constructors of crews, desks, the post -/
theorem kc_int {D : va_G} {tys tys2 : List (ClassId × FieldType)} {s : State} {cA cI : ClassId} (h2 : va_K D vcl (tys2 ++ [(cA, .int)]) s) (k : Nat) (h : va_K D vcl tys s) (k0 : Nat) (hk0 : tys[k0]? = some (cI, .int) := by rfl) (hk : tys2.length = k := by rfl) : cA = cI := by
  have a := (h2.2 k (cA, .int) (by rw [← hk, List.getElem?_append_right (Nat.le_refl _), Nat.sub_self]; rfl)).2
  have b := (h.2 k0 (cI, .int) hk0).2
  exact Option.some.inj ((show s.vm.findClass _ = some cA from a).symm.trans (show s.vm.findClass _ = some cI from b))

set_option maxHeartbeats 4000000 in
set_option maxRecDepth 100000 in
theorem i_Crew (l : Launch) (D : va_G) (cI : ClassId) (h0 sz : Nat) (n : Nat) (hn : n ≤ 6) : Met l yX0_init (.code yX0_init cX0_init 2 none :: bw) ({ frames := 1, cells := 2, slots := 12, locals := 12 }) (va_Pc [.ref h0, .int (nI n)] (fun U => U.heap.size = sz ∧ va_P D vcl ([(h0, .inr (0, [.null, .null, .int 0, .int 0, .int 0, .int 0]))]) U.heap ∧ va_K D vcl [(cI, .int)] U ∧ va_D (fun _ => True) ([(h0, .inr (0, [.null, .null, .int 0, .int 0, .int 0, .int 0]))]))) (va_Qv (fun u : Nat × Nat => True) (fun u t => va_P D vcl ([(h0, .inr (0, [.ref u.1, .ref u.2, .int (nI 0), .int (-1), .int (nI 0), .int (nI 0)])), (u.1, .inl (cI, n, .inl (fun _ => 0))), (u.2, .inl (cI, n, .inl (fun _ => 0)))]) t.heap ∧ va_D (va_A ([(h0, .inr (0, [.null, .null, .int 0, .int 0, .int 0, .int 0]))]) sz) ([(h0, .inr (0, [.ref u.1, .ref u.2, .int (nI 0), .int (-1), .int (nI 0), .int (nI 0)])), (u.1, .inl (cI, n, .inl (fun _ => 0))), (u.2, .inl (cI, n, .inl (fun _ => 0)))])) (va_A ([(h0, .inr (0, [.null, .null, .int 0, .int 0, .int 0, .int 0]))]) sz)) 2 12 (va_A ([(h0, .inr (0, [.null, .null, .int 0, .int 0, .int 0, .int 0]))]) sz) := by
  refine Met.ofW (cc := cX0_init) (maxL := 2) (ret := none) (by decide) rfl ?_
  intro p e s m args below meth c0 s₁ B hml hv
  obtain ⟨rfl, hsz, hP, hK, hD0⟩ := hv
  have hx := B.exec
  have hb := B.bytes
  have hr := B.returns
  have hts : ∀ w ∈ bw, w.before _ s = true := fun w hw => atoms_spec (ws := Cond.code yX0_init cX0_init 2 none :: bw) B.pre w (List.mem_cons_of_mem _ hw)
  have hown : s.vm.findClass yX0_init.cls = some m.cls := findClass_of_methodNamed B.named
  have hlocks := B.notSynchronized
  have hin : meth.name = "<init>" := (name_of_methodNamed B.named B.method).1
  subst hsz
  have hD := hD0.self (sz := s.heap.size)
  generalize hAe : va_A ([(h0, .inr (0, [.null, .null, .int 0, .int 0, .int 0, .int 0]))]) s.heap.size = A at hD ⊢
  have hA : ∀ q : Nat, s.heap.size ≤ q → A q := fun q h => by rw [← hAe]; exact Or.inr h
  have hS : va_S A s.heap s.heap [] := va_S.rf
  have hl := lv_entry [.ref h0, .int (nI n)] (n := 2) (Nat.le_of_ble_eq_true rfl)
  rw [lg_entry_eq]
  generalize (lg_sl [.ref h0, .int (nI n)] ++ List.replicate (2 - (lg_sl [.ref h0, .int (nI n)]).length) Slot.unset).toArray = ls at hl ⊢
  have hl : lv_has ls 2 [(0, .ref h0), (1, .int (nI n))] := hl
  refine lv_aload_n hx hb dX0_init_0 rfl (lv_at hl 0 rfl) ?_
  refine W.objInit hx hb hown (hts _ bw_67) (hts _ bw_51) (hts _ bw_52) rfl (by rw [hml]; exact hl.1) rfl dX0_init_1 (Nat.le_of_ble_eq_true rfl) (Nat.le_of_ble_eq_true rfl) ?_
  refine W.eq (g2 := F0 m 4 ls []) rfl ?_
  refine lv_aload_n hx hb dX0_init_4 rfl (lv_at hl 0 rfl) ?_
  refine lv_iconst (v := nI 0) hx hb dX0_init_5 (by decide) ?_
  refine va_put (D := D) (ci := 0) (v := .int (nI 0)) (ty := tyX0 2) (C := RX0) (T := TX0) (N := 6) hx hb hts in0 tyX0 tyX0_ok nmX0 hown hK hP hD hS 0 rfl rfl 2 (by decide) (hts _ bw_72) (fun _ h9 => h9) rfl (tyX0_ok 2 (by decide)) rfl rfl (Nat.le_of_ble_eq_true rfl) dX0_init_6 (fun H locs hP hD hS => ?_)
  have hP : va_P D vcl ([(h0, .inr (0, [.null, .null, .int (nI 0), .int 0, .int 0, .int 0]))]) H := hP
  have hD : va_D A ([(h0, .inr (0, [.null, .null, .int (nI 0), .int 0, .int 0, .int 0]))]) := hD
  refine lv_aload_n hx hb dX0_init_9 rfl (lv_at hl 0 rfl) ?_
  refine lv_iconst (v := (-1)) hx hb dX0_init_10 (by decide) ?_
  refine va_put (D := D) (ci := 0) (v := .int (-1)) (ty := tyX0 3) (C := RX0) (T := TX0) (N := 6) hx hb hts in0 tyX0 tyX0_ok nmX0 hown hK hP hD hS 0 rfl rfl 3 (by decide) (hts _ bw_74) (fun _ h9 => h9) rfl (tyX0_ok 3 (by decide)) rfl rfl (Nat.le_of_ble_eq_true rfl) dX0_init_11 (fun H locs hP hD hS => ?_)
  have hP : va_P D vcl ([(h0, .inr (0, [.null, .null, .int (nI 0), .int (-1), .int 0, .int 0]))]) H := hP
  have hD : va_D A ([(h0, .inr (0, [.null, .null, .int (nI 0), .int (-1), .int 0, .int 0]))]) := hD
  refine lv_aload_n hx hb dX0_init_14 rfl (lv_at hl 0 rfl) ?_
  refine lv_iconst (v := nI 0) hx hb dX0_init_15 (by decide) ?_
  refine va_put (D := D) (ci := 0) (v := .int (nI 0)) (ty := tyX0 4) (C := RX0) (T := TX0) (N := 6) hx hb hts in0 tyX0 tyX0_ok nmX0 hown hK hP hD hS 0 rfl rfl 4 (by decide) (hts _ bw_76) (fun _ h9 => h9) rfl (tyX0_ok 4 (by decide)) rfl rfl (Nat.le_of_ble_eq_true rfl) dX0_init_16 (fun H locs hP hD hS => ?_)
  have hP : va_P D vcl ([(h0, .inr (0, [.null, .null, .int (nI 0), .int (-1), .int (nI 0), .int 0]))]) H := hP
  have hD : va_D A ([(h0, .inr (0, [.null, .null, .int (nI 0), .int (-1), .int (nI 0), .int 0]))]) := hD
  refine lv_aload_n hx hb dX0_init_19 rfl (lv_at hl 0 rfl) ?_
  refine lv_iconst (v := nI 0) hx hb dX0_init_20 (by decide) ?_
  refine va_put (D := D) (ci := 0) (v := .int (nI 0)) (ty := tyX0 5) (C := RX0) (T := TX0) (N := 6) hx hb hts in0 tyX0 tyX0_ok nmX0 hown hK hP hD hS 0 rfl rfl 5 (by decide) (hts _ bw_78) (fun _ h9 => h9) rfl (tyX0_ok 5 (by decide)) rfl rfl (Nat.le_of_ble_eq_true rfl) dX0_init_21 (fun H locs hP hD hS => ?_)
  have hP : va_P D vcl ([(h0, .inr (0, [.null, .null, .int (nI 0), .int (-1), .int (nI 0), .int (nI 0)]))]) H := hP
  have hD : va_D A ([(h0, .inr (0, [.null, .null, .int (nI 0), .int (-1), .int (nI 0), .int (nI 0)]))]) := hD
  refine lv_aload_n hx hb dX0_init_24 rfl (lv_at hl 0 rfl) ?_
  refine lv_iload_n hx hb dX0_init_25 rfl (lv_at hl 1 rfl) ?_
  refine va_newa (D := D) (atype := .int) (ty := .int) (N' := n) (a0 := (n, .inl (fun _ => 0))) hx hb (hts _ bw_93) rfl hK hP hD hS hA (fun cA => rfl) (nI_pos (by omega)) (nI_clamp (by omega)) (by show n * 4 ≤ 536870912; omega) (by show 0 + 1 ≤ 2; omega) (by show 0 + n ≤ 12; omega) dX0_init_26 (fun q26 cA26 H hK2 hP hD hS => ?_)
  have hcA26 : cA26 = cI := kc_int hK2 1 hK 0
  rw [hcA26] at hP hD
  have hP : va_P D vcl ([(h0, .inr (0, [.null, .null, .int (nI 0), .int (-1), .int (nI 0), .int (nI 0)])), (q26, .inl (cI, n, .inl (fun _ => 0)))]) H := hP
  have hD : va_D A ([(h0, .inr (0, [.null, .null, .int (nI 0), .int (-1), .int (nI 0), .int (nI 0)])), (q26, .inl (cI, n, .inl (fun _ => 0)))]) := hD
  refine W.widen (k := 1) (n := 6) (by omega) (by omega) ?_
  refine va_putF (D := D) (ci := 0) (v := .ref q26) (ty := tyX0 0) (C := RX0) (T := TX0) (N := 6) hx hb hts in0 tyX0 tyX0_ok nmX0 hown hK hP hD hS 0 rfl rfl 0 (by decide) (hts _ bw_68) (fun _ h9 => h9) rfl hin rfl (tyX0_ok 0 (by decide)) rfl rfl (Nat.le_of_ble_eq_true rfl) dX0_init_28 (fun H locs hP hD hS => ?_)
  have hP : va_P D vcl ([(h0, .inr (0, [.ref q26, .null, .int (nI 0), .int (-1), .int (nI 0), .int (nI 0)])), (q26, .inl (cI, n, .inl (fun _ => 0)))]) H := hP
  have hD : va_D A ([(h0, .inr (0, [.ref q26, .null, .int (nI 0), .int (-1), .int (nI 0), .int (nI 0)])), (q26, .inl (cI, n, .inl (fun _ => 0)))]) := hD
  refine lv_aload_n hx hb dX0_init_31 rfl (lv_at hl 0 rfl) ?_
  refine lv_iload_n hx hb dX0_init_32 rfl (lv_at hl 1 rfl) ?_
  refine va_newa (D := D) (atype := .int) (ty := .int) (N' := n) (a0 := (n, .inl (fun _ => 0))) hx hb (hts _ bw_93) rfl hK hP hD hS hA (fun cA => rfl) (nI_pos (by omega)) (nI_clamp (by omega)) (by show n * 4 ≤ 536870912; omega) (by show 1 + 1 ≤ 2; omega) (by show 6 + n ≤ 12; omega) dX0_init_33 (fun q33 cA33 H hK2 hP hD hS => ?_)
  have hcA33 : cA33 = cI := kc_int hK2 1 hK 0
  rw [hcA33] at hP hD
  have hP : va_P D vcl ([(h0, .inr (0, [.ref q26, .null, .int (nI 0), .int (-1), .int (nI 0), .int (nI 0)])), (q26, .inl (cI, n, .inl (fun _ => 0))), (q33, .inl (cI, n, .inl (fun _ => 0)))]) H := hP
  have hD : va_D A ([(h0, .inr (0, [.ref q26, .null, .int (nI 0), .int (-1), .int (nI 0), .int (nI 0)])), (q26, .inl (cI, n, .inl (fun _ => 0))), (q33, .inl (cI, n, .inl (fun _ => 0)))]) := hD
  refine W.widen (k := 2) (n := 12) (by omega) (by omega) ?_
  refine va_putF (D := D) (ci := 0) (v := .ref q33) (ty := tyX0 1) (C := RX0) (T := TX0) (N := 6) hx hb hts in0 tyX0 tyX0_ok nmX0 hown hK hP hD hS 0 rfl rfl 1 (by decide) (hts _ bw_70) (fun _ h9 => h9) rfl hin rfl (tyX0_ok 1 (by decide)) rfl rfl (Nat.le_of_ble_eq_true rfl) dX0_init_35 (fun H locs hP hD hS => ?_)
  have hP : va_P D vcl ([(h0, .inr (0, [.ref q26, .ref q33, .int (nI 0), .int (-1), .int (nI 0), .int (nI 0)])), (q26, .inl (cI, n, .inl (fun _ => 0))), (q33, .inl (cI, n, .inl (fun _ => 0)))]) H := hP
  have hD : va_D A ([(h0, .inr (0, [.ref q26, .ref q33, .int (nI 0), .int (-1), .int (nI 0), .int (nI 0)])), (q26, .inl (cI, n, .inl (fun _ => 0))), (q33, .inl (cI, n, .inl (fun _ => 0)))]) := hD
  refine W.widen (k := 2) (n := 12) (by omega) (by omega) ?_
  exact W.vret hx hb hr (fun t ht hW => ⟨⟨(q26, q33), rfl, trivial, by rw [ht]; exact hP, hD⟩, hS.F ht⟩) hS.2.2 dX0_init_38

set_option maxHeartbeats 4000000 in
set_option maxRecDepth 100000 in
theorem i_Desk (l : Launch) (D : va_G) (cI : ClassId) (h0 sz : Nat)   : Met l yX1_init (.code yX1_init cX1_init 1 none :: bw) ({ frames := 1, cells := 0, slots := 0, locals := 12 }) (va_Pc [.ref h0] (fun U => U.heap.size = sz ∧ va_P D vcl ([(h0, .inr (1, [.int 0, .int 0, .int 0]))]) U.heap ∧ va_K D vcl [(cI, .int)] U ∧ va_D (fun _ => True) ([(h0, .inr (1, [.int 0, .int 0, .int 0]))]))) (va_Qv (fun u : Unit => True) (fun u t => va_P D vcl ([(h0, .inr (1, [.int (nI 0), .int (-1), .int (nI 0)]))]) t.heap ∧ va_D (va_A ([(h0, .inr (1, [.int 0, .int 0, .int 0]))]) sz) ([(h0, .inr (1, [.int (nI 0), .int (-1), .int (nI 0)]))])) (va_A ([(h0, .inr (1, [.int 0, .int 0, .int 0]))]) sz)) 0 0 (va_A ([(h0, .inr (1, [.int 0, .int 0, .int 0]))]) sz) := by
  refine Met.ofW (cc := cX1_init) (maxL := 1) (ret := none) (by decide) rfl ?_
  intro p e s m args below meth c0 s₁ B hml hv
  obtain ⟨rfl, hsz, hP, hK, hD0⟩ := hv
  have hx := B.exec
  have hb := B.bytes
  have hr := B.returns
  have hts : ∀ w ∈ bw, w.before _ s = true := fun w hw => atoms_spec (ws := Cond.code yX1_init cX1_init 1 none :: bw) B.pre w (List.mem_cons_of_mem _ hw)
  have hown : s.vm.findClass yX1_init.cls = some m.cls := findClass_of_methodNamed B.named
  have hlocks := B.notSynchronized
  have hin : meth.name = "<init>" := (name_of_methodNamed B.named B.method).1
  subst hsz
  have hD := hD0.self (sz := s.heap.size)
  generalize hAe : va_A ([(h0, .inr (1, [.int 0, .int 0, .int 0]))]) s.heap.size = A at hD ⊢
  have hA : ∀ q : Nat, s.heap.size ≤ q → A q := fun q h => by rw [← hAe]; exact Or.inr h
  have hS : va_S A s.heap s.heap [] := va_S.rf
  have hl := lv_entry [.ref h0] (n := 1) (Nat.le_of_ble_eq_true rfl)
  rw [lg_entry_eq]
  generalize (lg_sl [.ref h0] ++ List.replicate (1 - (lg_sl [.ref h0]).length) Slot.unset).toArray = ls at hl ⊢
  have hl : lv_has ls 1 [(0, .ref h0)] := hl
  refine lv_aload_n hx hb dX1_init_0 rfl (lv_at hl 0 rfl) ?_
  refine W.objInit hx hb hown (hts _ bw_98) (hts _ bw_51) (hts _ bw_52) rfl (by rw [hml]; exact hl.1) rfl dX1_init_1 (Nat.le_of_ble_eq_true rfl) (Nat.le_of_ble_eq_true rfl) ?_
  refine W.eq (g2 := F0 m 4 ls []) rfl ?_
  refine lv_aload_n hx hb dX1_init_4 rfl (lv_at hl 0 rfl) ?_
  refine lv_iconst (v := nI 0) hx hb dX1_init_5 (by decide) ?_
  refine va_put (D := D) (ci := 1) (v := .int (nI 0)) (ty := tyX1 0) (C := RX1) (T := TX1) (N := 3) hx hb hts in1 tyX1 tyX1_ok nmX1 hown hK hP hD hS 0 rfl rfl 0 (by decide) (hts _ bw_99) (fun _ h9 => h9) rfl (tyX1_ok 0 (by decide)) rfl rfl (Nat.le_of_ble_eq_true rfl) dX1_init_6 (fun H locs hP hD hS => ?_)
  have hP : va_P D vcl ([(h0, .inr (1, [.int (nI 0), .int 0, .int 0]))]) H := hP
  have hD : va_D A ([(h0, .inr (1, [.int (nI 0), .int 0, .int 0]))]) := hD
  refine lv_aload_n hx hb dX1_init_9 rfl (lv_at hl 0 rfl) ?_
  refine lv_iconst (v := (-1)) hx hb dX1_init_10 (by decide) ?_
  refine va_put (D := D) (ci := 1) (v := .int (-1)) (ty := tyX1 1) (C := RX1) (T := TX1) (N := 3) hx hb hts in1 tyX1 tyX1_ok nmX1 hown hK hP hD hS 0 rfl rfl 1 (by decide) (hts _ bw_101) (fun _ h9 => h9) rfl (tyX1_ok 1 (by decide)) rfl rfl (Nat.le_of_ble_eq_true rfl) dX1_init_11 (fun H locs hP hD hS => ?_)
  have hP : va_P D vcl ([(h0, .inr (1, [.int (nI 0), .int (-1), .int 0]))]) H := hP
  have hD : va_D A ([(h0, .inr (1, [.int (nI 0), .int (-1), .int 0]))]) := hD
  refine lv_aload_n hx hb dX1_init_14 rfl (lv_at hl 0 rfl) ?_
  refine lv_iconst (v := nI 0) hx hb dX1_init_15 (by decide) ?_
  refine va_put (D := D) (ci := 1) (v := .int (nI 0)) (ty := tyX1 2) (C := RX1) (T := TX1) (N := 3) hx hb hts in1 tyX1 tyX1_ok nmX1 hown hK hP hD hS 0 rfl rfl 2 (by decide) (hts _ bw_103) (fun _ h9 => h9) rfl (tyX1_ok 2 (by decide)) rfl rfl (Nat.le_of_ble_eq_true rfl) dX1_init_16 (fun H locs hP hD hS => ?_)
  have hP : va_P D vcl ([(h0, .inr (1, [.int (nI 0), .int (-1), .int (nI 0)]))]) H := hP
  have hD : va_D A ([(h0, .inr (1, [.int (nI 0), .int (-1), .int (nI 0)]))]) := hD
  refine W.widen (k := 0) (n := 0) (by omega) (by omega) ?_
  exact W.vret hx hb hr (fun t ht hW => ⟨⟨(), rfl, trivial, by rw [ht]; exact hP, hD⟩, hS.F ht⟩) hS.2.2 dX1_init_19

set_option maxHeartbeats 4000000 in
set_option maxRecDepth 100000 in
theorem i_Post (l : Launch) (D : va_G) (cI : ClassId) (h0 sz : Nat)   : Met l yX2_init (.code yX2_init cX2_init 1 none :: bw) ({ frames := 1, cells := 1, slots := 400, locals := 12 }) (va_Pc [.ref h0] (fun U => U.heap.size = sz ∧ va_P D vcl ([(h0, .inr (2, [.null, .int 0]))]) U.heap ∧ va_K D vcl [(cI, .int)] U ∧ va_D (fun _ => True) ([(h0, .inr (2, [.null, .int 0]))]))) (va_Qv (fun u : Nat => True) (fun u t => va_P D vcl ([(h0, .inr (2, [.ref u, .int (nI 0)])), (u, .inl (cI, 400, .inl (fun _ => 0)))]) t.heap ∧ va_D (va_A ([(h0, .inr (2, [.null, .int 0]))]) sz) ([(h0, .inr (2, [.ref u, .int (nI 0)])), (u, .inl (cI, 400, .inl (fun _ => 0)))])) (va_A ([(h0, .inr (2, [.null, .int 0]))]) sz)) 1 400 (va_A ([(h0, .inr (2, [.null, .int 0]))]) sz) := by
  refine Met.ofW (cc := cX2_init) (maxL := 1) (ret := none) (by decide) rfl ?_
  intro p e s m args below meth c0 s₁ B hml hv
  obtain ⟨rfl, hsz, hP, hK, hD0⟩ := hv
  have hx := B.exec
  have hb := B.bytes
  have hr := B.returns
  have hts : ∀ w ∈ bw, w.before _ s = true := fun w hw => atoms_spec (ws := Cond.code yX2_init cX2_init 1 none :: bw) B.pre w (List.mem_cons_of_mem _ hw)
  have hown : s.vm.findClass yX2_init.cls = some m.cls := findClass_of_methodNamed B.named
  have hlocks := B.notSynchronized
  have hin : meth.name = "<init>" := (name_of_methodNamed B.named B.method).1
  subst hsz
  have hD := hD0.self (sz := s.heap.size)
  generalize hAe : va_A ([(h0, .inr (2, [.null, .int 0]))]) s.heap.size = A at hD ⊢
  have hA : ∀ q : Nat, s.heap.size ≤ q → A q := fun q h => by rw [← hAe]; exact Or.inr h
  have hS : va_S A s.heap s.heap [] := va_S.rf
  have hl := lv_entry [.ref h0] (n := 1) (Nat.le_of_ble_eq_true rfl)
  rw [lg_entry_eq]
  generalize (lg_sl [.ref h0] ++ List.replicate (1 - (lg_sl [.ref h0]).length) Slot.unset).toArray = ls at hl ⊢
  have hl : lv_has ls 1 [(0, .ref h0)] := hl
  refine lv_aload_n hx hb dX2_init_0 rfl (lv_at hl 0 rfl) ?_
  refine W.objInit hx hb hown (hts _ bw_117) (hts _ bw_51) (hts _ bw_52) rfl (by rw [hml]; exact hl.1) rfl dX2_init_1 (Nat.le_of_ble_eq_true rfl) (Nat.le_of_ble_eq_true rfl) ?_
  refine W.eq (g2 := F0 m 4 ls []) rfl ?_
  refine lv_aload_n hx hb dX2_init_4 rfl (lv_at hl 0 rfl) ?_
  refine lv_sipush (v := nI 400) hx hb dX2_init_5 (by decide) ?_
  refine va_newa (D := D) (atype := .int) (ty := .int) (N' := 400) (a0 := (400, .inl (fun _ => 0))) hx hb (hts _ bw_93) rfl hK hP hD hS hA (fun cA => rfl) (nI_pos (by omega)) (nI_clamp (by omega)) (by show 400 * 4 ≤ 536870912; omega) (by show 0 + 1 ≤ 1; omega) (by show 0 + 400 ≤ 400; omega) dX2_init_8 (fun q8 cA8 H hK2 hP hD hS => ?_)
  have hcA8 : cA8 = cI := kc_int hK2 1 hK 0
  rw [hcA8] at hP hD
  have hP : va_P D vcl ([(h0, .inr (2, [.null, .int 0])), (q8, .inl (cI, 400, .inl (fun _ => 0)))]) H := hP
  have hD : va_D A ([(h0, .inr (2, [.null, .int 0])), (q8, .inl (cI, 400, .inl (fun _ => 0)))]) := hD
  refine W.widen (k := 1) (n := 400) (by omega) (by omega) ?_
  refine va_putF (D := D) (ci := 2) (v := .ref q8) (ty := tyX2 0) (C := RX2) (T := TX2) (N := 2) hx hb hts in2 tyX2 tyX2_ok nmX2 hown hK hP hD hS 0 rfl rfl 0 (by decide) (hts _ bw_118) (fun _ h9 => h9) rfl hin rfl (tyX2_ok 0 (by decide)) rfl rfl (Nat.le_of_ble_eq_true rfl) dX2_init_10 (fun H locs hP hD hS => ?_)
  have hP : va_P D vcl ([(h0, .inr (2, [.ref q8, .int 0])), (q8, .inl (cI, 400, .inl (fun _ => 0)))]) H := hP
  have hD : va_D A ([(h0, .inr (2, [.ref q8, .int 0])), (q8, .inl (cI, 400, .inl (fun _ => 0)))]) := hD
  refine lv_aload_n hx hb dX2_init_13 rfl (lv_at hl 0 rfl) ?_
  refine lv_iconst (v := nI 0) hx hb dX2_init_14 (by decide) ?_
  refine va_put (D := D) (ci := 2) (v := .int (nI 0)) (ty := tyX2 1) (C := RX2) (T := TX2) (N := 2) hx hb hts in2 tyX2 tyX2_ok nmX2 hown hK hP hD hS 0 rfl rfl 1 (by decide) (hts _ bw_119) (fun _ h9 => h9) rfl (tyX2_ok 1 (by decide)) rfl rfl (Nat.le_of_ble_eq_true rfl) dX2_init_15 (fun H locs hP hD hS => ?_)
  have hP : va_P D vcl ([(h0, .inr (2, [.ref q8, .int (nI 0)])), (q8, .inl (cI, 400, .inl (fun _ => 0)))]) H := hP
  have hD : va_D A ([(h0, .inr (2, [.ref q8, .int (nI 0)])), (q8, .inl (cI, 400, .inl (fun _ => 0)))]) := hD
  refine W.widen (k := 1) (n := 400) (by omega) (by omega) ?_
  exact W.vret hx hb hr (fun t ht hW => ⟨⟨q8, rfl, trivial, by rw [ht]; exact hP, hD⟩, hS.F ht⟩) hS.2.2 dX2_init_18
