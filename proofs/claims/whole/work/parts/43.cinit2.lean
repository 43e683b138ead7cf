/-! the class's constructor -/
theorem cellq_congr {cA : ClassId} {n : Nat} {f g : Nat → Option Nat} (h : ∀ i, i < n → f i = g i) : vp_cell cA (n, .inr (.inr (.inr (.inr f)))) = vp_cell cA (n, .inr (.inr (.inr (.inr g)))) := by
  rw [vp_cell_q, vp_cell_q]
  unfold arrV
  congr 2
  funext j
  show va_rf (f j.val) = va_rf (g j.val)
  rw [h j.val j.isLt]
theorem clampC {x : Int32} {n : Nat} (h : clampd x n) : (if nI 2 < (if x < nI 6 then x else nI 6) then (if x < nI 6 then x else nI 6) else nI 2) = nI n := by
  rcases h with ⟨q, e⟩ | ⟨q, e⟩ | ⟨a, b, e⟩
  · have h6 : x < nI 6 := by
      rw [Int32.lt_iff_toInt_lt, nI_toInt (by omega)] at q ⊢
      omega
    rw [if_pos h6, if_neg (by rw [Int32.lt_iff_toInt_lt, nI_toInt (by omega)] at q ⊢; omega), e]
  · have h6 : ¬ x < nI 6 := by
      rw [Int32.lt_iff_toInt_lt, nI_toInt (by omega)] at q ⊢
      omega
    rw [if_neg h6, if_pos (nI_lt (by omega) (by omega)), e]
  · subst e
    by_cases h6 : n < 6
    · rw [if_pos (nI_lt h6 (by omega))]
      by_cases h2 : 2 < n
      · rw [if_pos (nI_lt h2 (by omega))]
      · rw [if_neg (nI_nlt (by omega) (by omega)), show n = 2 by omega]
    · rw [if_neg (nI_nlt (by omega) (by omega)), if_pos (nI_lt (by omega) (by omega)), show n = 6 by omega]
def okAr (ar : Nat → Nat → Int32) : Prop := (∀ j, ar 1 j = 0) ∧ (∀ j, ar 2 j = 0) ∧ (∀ j, ar 3 j = nI 0) ∧ (∀ j, j < 6 → ar 4 j = -1) ∧ (∀ j, ar 5 j = nI 0) ∧ (∀ j, ar 6 j = nI 0) ∧ (∀ j, j < 6 → ar 7 j = -1) ∧ (∀ j, ar 8 j = nI 0) ∧ (∀ j, ar 9 j = nI 0) ∧ (∀ j, ar 10 j = 0) ∧ (∀ j, ar 11 j = 0)
theorem piC_inj {n i j : Nat} (hi : i < 4 * n + 6) (hj : j < 4 * n + 6) (h : piC n i = piC n j) : i = j := by
  unfold piC at h
  split at h <;> split at h <;> (try split at h) <;> (try split at h) <;> omega
theorem finC {D : va_G} {A : Nat → Prop} {H : Heap} {h0 qc qd qp qm qs n ph : Nat} {u : Nat → Nat} {cI cC cD : ClassId} {ar : Nat → Nat → Int32} (hn : n ≤ 6) (ha : okAr ar)
    (hP : va_P D vcl (wl3 h0 qc qd cC cD n [.int (nI n), .ref qc, .ref qd, .ref qp, .ref qs, .int (nI ph)] (fbk n u 0) (fbk n u 3) (rlw u (gE u cI n) (4 * n) ++ [(qp, .inr (2, [.ref qm, .int (nI 0)])), (qm, .inl (cI, 400, .inl (fun _ => 0))), (qs, .inl (cI, 4, .inl (fun _ => 0)))])) H)
    (hD : va_D A (wl3 h0 qc qd cC cD n [.int (nI n), .ref qc, .ref qd, .ref qp, .ref qs, .int (nI ph)] (fbk n u 0) (fbk n u 3) (rlw u (gE u cI n) (4 * n) ++ [(qp, .inr (2, [.ref qm, .int (nI 0)])), (qm, .inl (cI, 400, .inl (fun _ => 0))), (qs, .inl (cI, 4, .inl (fun _ => 0)))]))) :
    va_P D vcl (rlw (adC h0 qc qd qp qm qs u) (cE (adC h0 qc qd qp qm qs u) cI cC cD n ph 0 ar) (4 * n + 6)) H ∧ va_D A (rlw (adC h0 qc qd qp qm qs u) (cE (adC h0 qc qd qp qm qs u) cI cC cD n ph 0 ar) (4 * n + 6)) := by
  obtain ⟨a1, a2, a3, a4, a5, a6, a7, a8, a9, a10, a11⟩ := ha
  have R := reord (h0 := h0) (qc := qc) (qd := qd) (qp := qp) (qm := qm) (qs := qs) (ph := ph) (u := u) (cI := cI) (cC := cC) (cD := cD) hn a1 a2 a3 a4 a5 a6 a7 a8 a9 a10 a11
  refine ⟨fun k q hk => ?_, ⟨fun i j p q hp hq he => ?_, fun k q hk => ?_⟩⟩
  · obtain ⟨hl, rfl⟩ := rlw_inv hk
    have h := hP _ _ (R k hl)
    by_cases e1 : k = 1
    · subst e1
      show H[qc]? = some (vp_cell cC (n, .inr (.inr (.inr (.inr (fun i => some (adC h0 qc qd qp qm qs u (4 * i + 6))))))))
      rw [← cellq_congr (f := fbk n u 0) (fun i hi => by unfold fbk; rw [if_pos hi]; rfl)]
      exact h
    · by_cases e2 : k = 2
      · subst e2
        show H[qd]? = some (vp_cell cD (n, .inr (.inr (.inr (.inr (fun i => some (adC h0 qc qd qp qm qs u (4 * i + 9))))))))
        rw [← cellq_congr (f := fbk n u 3) (fun i hi => by unfold fbk; rw [if_pos hi]; rfl)]
        exact h
      · rw [if_neg e1, if_neg e2] at h
        exact h
  · obtain ⟨hi, rfl⟩ := rlw_inv hp
    obtain ⟨hj, rfl⟩ := rlw_inv hq
    exact piC_inj hi hj (hD.1 _ _ _ _ (R i hi) (R j hj) he)
  · obtain ⟨hl, rfl⟩ := rlw_inv hk
    have hz := hD.2 _ _ (R k hl)
    exact hz
theorem phst_3 {y : Int32} {ph : Nat} (h : phst y ph) (h0 : ¬ y = 0) : nI 0 = nI ph := by
  rcases h with ⟨a, b⟩ | ⟨a, b⟩
  · exact absurd a h0
  · rw [b]
theorem phst_4 {y : Int32} {ph : Nat} (h : phst y ph) (h0 : y = 0) : nI 3 = nI ph := by
  rcases h with ⟨a, b⟩ | ⟨a, b⟩
  · rw [b]
  · exact absurd h0 a
theorem hdX0_init : yX0_init.cls = yX0_init.cls ∧ yX0_init.cls ≠ "java/lang/invoke/MethodHandle" ∧ yX0_init.cls ≠ "java/lang/invoke/VarHandle" ∧ (parseMethodDescriptor yX0_init.desc).map (fun d => d.parameters.length) = some 1 := by decide +kernel
theorem hdX1_init : yX1_init.cls = yX1_init.cls ∧ yX1_init.cls ≠ "java/lang/invoke/MethodHandle" ∧ yX1_init.cls ≠ "java/lang/invoke/VarHandle" ∧ (parseMethodDescriptor yX1_init.desc).map (fun d => d.parameters.length) = some 0 := by decide +kernel
theorem hdX2_init : yX2_init.cls = yX2_init.cls ∧ yX2_init.cls ≠ "java/lang/invoke/MethodHandle" ∧ yX2_init.cls ≠ "java/lang/invoke/VarHandle" ∧ (parseMethodDescriptor yX2_init.desc).map (fun d => d.parameters.length) = some 0 := by decide +kernel
set_option maxHeartbeats 8000000 in
set_option maxRecDepth 100000 in
theorem c_init (l : Launch) (D : va_G) (cI cC cD : ClassId) (h0 sz n ph : Nat) (x y : Int32) (ar : Nat → Nat → Int32) (hcl : clampd x n) (hph : phst y ph) (har : okAr ar) : Met l yX3_init (.code yX3_init cX3_init 4 none :: bw) ({ frames := 2, cells := 29, slots := 544, locals := 33 }) (va_Pc [.ref h0, .int x, .int y] (fun U => U.heap.size = sz ∧ va_P D vcl [(h0, .inr (3, [.int 0, .null, .null, .null, .null, .int 0]))] U.heap ∧ va_K D vcl (ty3 cI cC cD) U ∧ va_D (fun _ => True) [(h0, .inr (3, [.int 0, .null, .null, .null, .null, .int 0]))] ∧ (∀ w ∈ nwW, va_Nw w U) ∧ va_AO RX0 U ∧ va_AO RX1 U)) (va_Qv (fun u : Nat → Nat => u 0 = h0) (fun u t => va_P D vcl (rlw u (cE u cI cC cD n ph 0 ar) (4 * n + 6)) t.heap ∧ va_D (va_A ([(h0, .inr (3, [.int 0, .null, .null, .null, .null, .int 0]))]) sz) (rlw u (cE u cI cC cD n ph 0 ar) (4 * n + 6))) (va_A ([(h0, .inr (3, [.int 0, .null, .null, .null, .null, .int 0]))]) sz)) 29 544 (va_A ([(h0, .inr (3, [.int 0, .null, .null, .null, .null, .int 0]))]) sz) := by
  have hnn := clampd_le hcl
  refine Met.ofW (cc := cX3_init) (maxL := 4) (ret := none) (by decide) rfl ?_
  intro p e s m args below meth c0 s₁ B hml hv
  obtain ⟨rfl, hsz, hP, hK, hD0, hnw, hAO1, hAO2⟩ := hv
  have hx := B.exec
  have hb := B.bytes
  have hr := B.returns
  have hts : ∀ w ∈ bw, w.before _ s = true := fun w hw => atoms_spec (ws := Cond.code yX3_init cX3_init 4 none :: bw) B.pre w (List.mem_cons_of_mem _ hw)
  have hown : s.vm.findClass yX3_init.cls = some m.cls := findClass_of_methodNamed B.named
  have hlocks := B.notSynchronized
  have hin : meth.name = "<init>" := (name_of_methodNamed B.named B.method).1
  subst hsz
  have hD := hD0.self (sz := s.heap.size)
  generalize hAe : va_A ([(h0, .inr (3, [.int 0, .null, .null, .null, .null, .int 0]))]) s.heap.size = A at hD ⊢
  have hA : ∀ q : Nat, s.heap.size ≤ q → A q := fun q h => by rw [← hAe]; exact Or.inr h
  have hS : va_S A s.heap s.heap [] := va_S.rf
  obtain ⟨Q0, hQ0⟩ : ∃ z, z = MQ below (va_Qv (fun u : Nat → Nat => u 0 = h0) (fun u t => va_P D vcl (rlw u (cE u cI cC cD n ph 0 ar) (4 * n + 6)) t.heap ∧ va_D A (rlw u (cE u cI cC cD n ph 0 ar) (4 * n + 6))) A) [Value.ref h0, Value.int x, Value.int y].toArray s 29 544 A := ⟨_, rfl⟩
  rw [← hQ0]
  have hl := lv_entry [.ref h0, .int x, .int y] (n := 4) (Nat.le_of_ble_eq_true rfl)
  rw [lg_entry_eq]
  generalize (lg_sl [.ref h0, .int x, .int y] ++ List.replicate (4 - (lg_sl [.ref h0, .int x, .int y]).length) Slot.unset).toArray = ls at hl ⊢
  have hl : lv_has ls 4 [(0, .ref h0), (1, .int x), (2, .int y)] := hl
  refine lv_aload_n hx hb dX3_init_0 rfl (lv_at hl 0 rfl) ?_
  refine W.objInit hx hb hown (hts _ bw_50) (hts _ bw_51) (hts _ bw_52) rfl (by rw [hml]; exact hl.1) rfl dX3_init_1 (Nat.le_of_ble_eq_true rfl) (Nat.le_of_ble_eq_true rfl) ?_
  refine W.eq (g2 := F0 m 4 ls []) rfl ?_
  refine lv_aload_n hx hb dX3_init_4 rfl (lv_at hl 0 rfl) ?_
  refine lv_iconst (v := nI 2) hx hb dX3_init_5 (by decide) ?_
  refine lv_bipush (v := nI 6) hx hb dX3_init_6 (by decide) ?_
  refine lv_iload_n hx hb dX3_init_8 rfl (lv_at hl 1 rfl) ?_
  refine va_mmin hx hb (hml.trans hl.1.symm) hown (hts _ bw_53) (hts _ bw_54) (hts _ bw_33) (hts _ bw_55) (by decide) (Nat.le_of_ble_eq_true rfl) (Nat.zero_le _) (Nat.zero_le _) dX3_init_9 ?_
  refine va_mmax hx hb (hml.trans hl.1.symm) hown (hts _ bw_56) (hts _ bw_57) (hts _ bw_33) (hts _ bw_58) (by decide) (Nat.le_of_ble_eq_true rfl) (Nat.zero_le _) (Nat.zero_le _) dX3_init_12 ?_
  refine nb_ren (y := nI n) (clampC hcl) ?_
  refine va_putF (D := D) (ci := 3) (v := .int (nI n)) (ty := tyX3 0) (C := RX3) (T := TX3) (N := 6) hx hb hts in3 tyX3 tyX3_ok nmX3 hown hK hP hD hS 0 rfl rfl 0 (by decide) (hts _ bw_126) (fun _ h9 => h9) rfl hin rfl (tyX3_ok 0 (by decide)) rfl rfl (Nat.le_of_ble_eq_true rfl) dX3_init_15 (fun H locs hP hD hS => ?_)
  have hP : va_P D vcl ([(h0, .inr (3, [.int (nI n), .null, .null, .null, .null, .int 0]))]) H := hP
  have hD : va_D A ([(h0, .inr (3, [.int (nI n), .null, .null, .null, .null, .int 0]))]) := hD
  refine lv_aload_n hx hb dX3_init_18 rfl (lv_at hl 0 rfl) ?_
  refine lv_aload_n hx hb dX3_init_19 rfl (lv_at hl 0 rfl) ?_
  refine va_get (D := D) (ci := 3) (v := .int (nI n)) (C := RX3) (T := TX3) (N := 6) hx hb hts in3 hown hK hP 0 rfl rfl 0 (by decide) (hts _ bw_126) (fun _ h9 => h9) rfl dX3_init_20 ?_
  refine va_newq (D := D) (C := RX0) (N' := n) hx hb hown (hts _ bw_59) hAO1 hK hP hD hS hA (nI_pos (by omega)) (nI_clamp (by omega)) (by omega) (by show 0 + 1 ≤ 29; omega) (by show 0 + n ≤ 544; omega) dX3_init_23 (fun qc cA1 H hK2 hP hD hS => ?_)
  have hcA1 : cA1 = cC := kc_obj hK2 hK 1 rfl
  rw [hcA1] at hP hD
  have hP : va_P D vcl ([(h0, .inr (3, [.int (nI n), .null, .null, .null, .null, .int 0])), (qc, .inl (cC, n, .inr (.inr (.inr (.inr (fun _ => none))))))]) H := hP
  have hD : va_D A ([(h0, .inr (3, [.int (nI n), .null, .null, .null, .null, .int 0])), (qc, .inl (cC, n, .inr (.inr (.inr (.inr (fun _ => none))))))]) := hD
  refine W.widen (k := 1) (n := 6) (by omega) (by omega) ?_
  refine va_putF (D := D) (ci := 3) (v := .ref qc) (ty := tyX3 1) (C := RX3) (T := TX3) (N := 6) hx hb hts in3 tyX3 tyX3_ok nmX3 hown hK hP hD hS 0 rfl rfl 1 (by decide) (hts _ bw_127) (fun _ h9 => h9) rfl hin rfl (tyX3_ok 1 (by decide)) rfl rfl (Nat.le_of_ble_eq_true rfl) dX3_init_26 (fun H locs hP hD hS => ?_)
  have hP : va_P D vcl ([(h0, .inr (3, [.int (nI n), .ref qc, .null, .null, .null, .int 0])), (qc, .inl (cC, n, .inr (.inr (.inr (.inr (fun _ => none))))))]) H := hP
  have hD : va_D A ([(h0, .inr (3, [.int (nI n), .ref qc, .null, .null, .null, .int 0])), (qc, .inl (cC, n, .inr (.inr (.inr (.inr (fun _ => none))))))]) := hD
  refine lv_aload_n hx hb dX3_init_29 rfl (lv_at hl 0 rfl) ?_
  refine lv_aload_n hx hb dX3_init_30 rfl (lv_at hl 0 rfl) ?_
  refine va_get (D := D) (ci := 3) (v := .int (nI n)) (C := RX3) (T := TX3) (N := 6) hx hb hts in3 hown hK hP 0 rfl rfl 0 (by decide) (hts _ bw_126) (fun _ h9 => h9) rfl dX3_init_31 ?_
  refine va_newq (D := D) (C := RX1) (N' := n) hx hb hown (hts _ bw_61) hAO2 hK hP hD hS hA (nI_pos (by omega)) (nI_clamp (by omega)) (by omega) (by show 1 + 1 ≤ 29; omega) (by show 6 + n ≤ 544; omega) dX3_init_34 (fun qd cA2 H hK2 hP hD hS => ?_)
  have hcA2 : cA2 = cD := kc_obj hK2 hK 2 rfl
  rw [hcA2] at hP hD
  have hP : va_P D vcl ([(h0, .inr (3, [.int (nI n), .ref qc, .null, .null, .null, .int 0])), (qc, .inl (cC, n, .inr (.inr (.inr (.inr (fun _ => none)))))), (qd, .inl (cD, n, .inr (.inr (.inr (.inr (fun _ => none))))))]) H := hP
  have hD : va_D A ([(h0, .inr (3, [.int (nI n), .ref qc, .null, .null, .null, .int 0])), (qc, .inl (cC, n, .inr (.inr (.inr (.inr (fun _ => none)))))), (qd, .inl (cD, n, .inr (.inr (.inr (.inr (fun _ => none))))))]) := hD
  refine W.widen (k := 2) (n := 12) (by omega) (by omega) ?_
  refine va_putF (D := D) (ci := 3) (v := .ref qd) (ty := tyX3 2) (C := RX3) (T := TX3) (N := 6) hx hb hts in3 tyX3 tyX3_ok nmX3 hown hK hP hD hS 0 rfl rfl 2 (by decide) (hts _ bw_128) (fun _ h9 => h9) rfl hin rfl (tyX3_ok 2 (by decide)) rfl rfl (Nat.le_of_ble_eq_true rfl) dX3_init_37 (fun H locs hP hD hS => ?_)
  have hP : va_P D vcl ([(h0, .inr (3, [.int (nI n), .ref qc, .ref qd, .null, .null, .int 0])), (qc, .inl (cC, n, .inr (.inr (.inr (.inr (fun _ => none)))))), (qd, .inl (cD, n, .inr (.inr (.inr (.inr (fun _ => none))))))]) H := hP
  have hD : va_D A ([(h0, .inr (3, [.int (nI n), .ref qc, .ref qd, .null, .null, .int 0])), (qc, .inl (cC, n, .inr (.inr (.inr (.inr (fun _ => none)))))), (qd, .inl (cD, n, .inr (.inr (.inr (.inr (fun _ => none))))))]) := hD
  refine lv_iconst (v := nI 0) hx hb dX3_init_40 (by decide) ?_
  refine lv_istore_n (lv' := [(3, .int (nI 0)), (0, .ref h0), (1, .int x), (2, .int y)]) hx hb dX3_init_41 rfl hl (by decide) rfl (fun ls hl => ?_)
  have L42 : ∀ (fuel k : Nat) (u : Nat → Nat) (hk : k ≤ n) (hfu : n < k + fuel) (H : Heap) (locs : List Loc) (hP : va_P D vcl (wl3 h0 qc qd cC cD n [.int (nI n), .ref qc, .ref qd, .null, .null, .int 0] (fbk k u 0) (fbk k u 3) (rlw u (gE u cI n) (4 * k))) H) (hD : va_D A (wl3 h0 qc qd cC cD n [.int (nI n), .ref qc, .ref qd, .null, .null, .int 0] (fbk k u 0) (fbk k u 3) (rlw u (gE u cI n) (4 * k)))) (hS : va_S A s.heap H locs) (ls : Array Slot) (hl : lv_has ls 4 [(3, .int (nI k)), (0, .ref h0), (1, .int x), (2, .int y)]), W p l e ({ frames := 2, cells := 29, slots := 544, locals := 33 }) s m [Value.ref h0, Value.int x, Value.int y].toArray below meth c0 H locs (2 + 4 * k) (12 + 21 * k) Q0 (F0 m 42 ls []) := by
    intro fuel
    induction fuel with
    | zero => intro k u hk hfu; exact absurd hfu (by omega)
    | succ fuel ih =>
      intro k u hk hfu H locs hP hD hS ls hl
      refine lv_iload_n hx hb dX3_init_42 rfl (lv_at hl 0 rfl) ?_
      refine lv_aload_n hx hb dX3_init_43 rfl (lv_at hl 1 rfl) ?_
      refine va_get (D := D) (ci := 3) (v := .int (nI n)) (C := RX3) (T := TX3) (N := 6) hx hb hts in3 hown hK hP 0 rfl rfl 0 (by decide) (hts _ bw_126) (fun _ h9 => h9) rfl dX3_init_44 ?_
      refine nb_icmp_ge (tgt := 86) hx hb dX3_init_47 (by decide) (by omega) (by omega) (fun h47 => ?_) (fun h47 => ?_)
      · have hkn : k = n := by omega
        subst hkn
        refine lv_aload_n hx hb dX3_init_86 rfl (lv_at hl 1 rfl) ?_
        refine va_new (ci := 2) (fs := [.null, .int 0]) (C := RX2) (T := TX2) (N := 2) hx hb hts in2 tyX2 tyX2_ok hown (hts _ bw_112) (hts _ bw_113) (hts _ bw_36) hK hP hD hS hA rfl (fun j hj => by rcases (show j = 0 ∨ j = 1 by omega) with rfl | rfl <;> rfl) (by show 2 + 4 * k + 1 ≤ 29; omega) (by show 12 + 21 * k + 2 ≤ 544; omega) dX3_init_87 (fun qp H hP hD hS => ?_)
        refine lv_dup hx hb dX3_init_90 rfl ?_
        have hP : va_P D vcl ((wl3 h0 qc qd cC cD k [.int (nI k), .ref qc, .ref qd, .null, .null, .int 0] (fbk k u 0) (fbk k u 3) (rlw u (gE u cI k) (4 * k))) ++ [(qp, .inr (2, [.null, .int 0]))]) H := hP
        have hD : va_D A ((wl3 h0 qc qd cC cD k [.int (nI k), .ref qc, .ref qd, .null, .null, .int 0] (fbk k u 0) (fbk k u 3) (rlw u (gE u cI k) (4 * k))) ++ [(qp, .inr (2, [.null, .int 0]))]) := hD
        have hPc := last_P hP
        have hDc := last_D hD
        have hKc : va_K D vcl [(cI, .int)] s := hK.sub [0] rfl
        have hFc := last_F hD hS hA
        refine va_callv (va_runIN (As := []) (rest := [.ref qp, .ref h0]) (n := 0) (host := "LetterAuction") ⟨hx, hb, hml, hown, hts⟩ (i_Post l D cI qp H.size) ⟨va_cnB 0 hts (bw_GI (fun _ h => h) (List.forall_mem_cons.mpr ⟨bw_116, fun _ h => h⟩)) rfl rfl rfl (hnw _ nw_11) (hts _ bw_36) hdX2_init.2 ⟨by decide, by decide⟩, rfl, (hts _ bw_115)⟩ ⟨fun a U g mk q => by obtain ⟨q0, q1, qP, qK, qD⟩ := q; exact ⟨q0, q1, qP, va_K.moved (u := U) (U := U.calling g mk a) (Vm.Alike.refl U.vm) qK, qD⟩, fun U hU hW => ⟨rfl, by rw [hU], by rw [hU]; exact hPc, va_K.moved hW.alike hKc, hDc⟩⟩ rfl rfl hl.1 rfl (lv_room (Nat.le_of_ble_eq_true rfl)) dX3_init_91 ⟨by show 2 + 4 * k + 1 + 1 ≤ 29; omega, by show 12 + 21 * k + 2 + 400 ≤ 544; omega⟩) hS (fun q _ h => hFc q h) hFc (fun w9 t H1 locs ht hvm hw hB hz1 hk1 hS => ?_)
        obtain ⟨hP1, hD1⟩ := hB
        rw [ht] at hP1
        obtain ⟨hP, hD⟩ := join_last hP hD hk1 hFc hP1 hD1
        generalize H1 = H at hP hS ⊢
        have hP : va_P D vcl (wl3 h0 qc qd cC cD k [.int (nI k), .ref qc, .ref qd, .null, .null, .int 0] (fbk k u 0) (fbk k u 3) (rlw u (gE u cI k) (4 * k) ++ [(qp, .inr (2, [.ref w9, .int (nI 0)])), (w9, .inl (cI, 400, .inl (fun _ => 0)))])) H := hP
        have hD : va_D A (wl3 h0 qc qd cC cD k [.int (nI k), .ref qc, .ref qd, .null, .null, .int 0] (fbk k u 0) (fbk k u 3) (rlw u (gE u cI k) (4 * k) ++ [(qp, .inr (2, [.ref w9, .int (nI 0)])), (w9, .inl (cI, 400, .inl (fun _ => 0)))])) := hD
        refine W.widen (k := 28) (n := 540) (by omega) (by omega) ?_
        refine va_putF (D := D) (ci := 3) (v := .ref qp) (ty := tyX3 3) (C := RX3) (T := TX3) (N := 6) hx hb hts in3 tyX3 tyX3_ok nmX3 hown hK hP hD hS 0 rfl rfl 3 (by decide) (hts _ bw_129) (fun _ h9 => h9) rfl hin rfl (tyX3_ok 3 (by decide)) rfl rfl (Nat.le_of_ble_eq_true rfl) dX3_init_94 (fun H locs hP hD hS => ?_)
        have hP : va_P D vcl (wl3 h0 qc qd cC cD k [.int (nI k), .ref qc, .ref qd, .ref qp, .null, .int 0] (fbk k u 0) (fbk k u 3) (rlw u (gE u cI k) (4 * k) ++ [(qp, .inr (2, [.ref w9, .int (nI 0)])), (w9, .inl (cI, 400, .inl (fun _ => 0)))])) H := hP
        have hD : va_D A (wl3 h0 qc qd cC cD k [.int (nI k), .ref qc, .ref qd, .ref qp, .null, .int 0] (fbk k u 0) (fbk k u 3) (rlw u (gE u cI k) (4 * k) ++ [(qp, .inr (2, [.ref w9, .int (nI 0)])), (w9, .inl (cI, 400, .inl (fun _ => 0)))])) := hD
        refine lv_aload_n hx hb dX3_init_97 rfl (lv_at hl 1 rfl) ?_
        refine lv_iconst (v := nI 4) hx hb dX3_init_98 (by decide) ?_
        refine va_newa (D := D) (atype := .int) (ty := .int) (N' := 4) (a0 := (4, .inl (fun _ => 0))) hx hb (hts _ bw_93) rfl hK hP hD hS hA (fun cA => rfl) (nI_pos (by omega)) (nI_clamp (by omega)) (by show 4 * 4 ≤ 536870912; omega) (by show 28 + 1 ≤ 29; omega) (by show 540 + 4 ≤ 544; omega) dX3_init_99 (fun qs cA9 H hK2 hP hD hS => ?_)
        have hcA9 : cA9 = cI := kc_i3 hK2 hK
        rw [hcA9] at hP hD
        have eG : (rlw u (gE u cI k) (4 * k) ++ [(qp, .inr (2, [.ref w9, .int (nI 0)])), (w9, .inl (cI, 400, .inl (fun _ => 0)))]) ++ [((qs : Nat), (.inl (cI, 4, .inl (fun _ => 0)) : va_E))] = (rlw u (gE u cI k) (4 * k) ++ [(qp, .inr (2, [.ref w9, .int (nI 0)])), (w9, .inl (cI, 400, .inl (fun _ => 0))), (qs, .inl (cI, 4, .inl (fun _ => 0)))]) := by rw [List.append_assoc]; rfl
        have hP : va_P D vcl (wl3 h0 qc qd cC cD k [.int (nI k), .ref qc, .ref qd, .ref qp, .null, .int 0] (fbk k u 0) (fbk k u 3) (rlw u (gE u cI k) (4 * k) ++ [(qp, .inr (2, [.ref w9, .int (nI 0)])), (w9, .inl (cI, 400, .inl (fun _ => 0))), (qs, .inl (cI, 4, .inl (fun _ => 0)))])) H := by rw [← eG]; exact hP
        have hD : va_D A (wl3 h0 qc qd cC cD k [.int (nI k), .ref qc, .ref qd, .ref qp, .null, .int 0] (fbk k u 0) (fbk k u 3) (rlw u (gE u cI k) (4 * k) ++ [(qp, .inr (2, [.ref w9, .int (nI 0)])), (w9, .inl (cI, 400, .inl (fun _ => 0))), (qs, .inl (cI, 4, .inl (fun _ => 0)))])) := by rw [← eG]; exact hD
        refine W.widen (k := 29) (n := 544) (by omega) (by omega) ?_
        refine va_putF (D := D) (ci := 3) (v := .ref qs) (ty := tyX3 4) (C := RX3) (T := TX3) (N := 6) hx hb hts in3 tyX3 tyX3_ok nmX3 hown hK hP hD hS 0 rfl rfl 4 (by decide) (hts _ bw_130) (fun _ h9 => h9) rfl hin rfl (tyX3_ok 4 (by decide)) rfl rfl (Nat.le_of_ble_eq_true rfl) dX3_init_101 (fun H locs hP hD hS => ?_)
        have hP : va_P D vcl (wl3 h0 qc qd cC cD k [.int (nI k), .ref qc, .ref qd, .ref qp, .ref qs, .int 0] (fbk k u 0) (fbk k u 3) (rlw u (gE u cI k) (4 * k) ++ [(qp, .inr (2, [.ref w9, .int (nI 0)])), (w9, .inl (cI, 400, .inl (fun _ => 0))), (qs, .inl (cI, 4, .inl (fun _ => 0)))])) H := hP
        have hD : va_D A (wl3 h0 qc qd cC cD k [.int (nI k), .ref qc, .ref qd, .ref qp, .ref qs, .int 0] (fbk k u 0) (fbk k u 3) (rlw u (gE u cI k) (4 * k) ++ [(qp, .inr (2, [.ref w9, .int (nI 0)])), (w9, .inl (cI, 400, .inl (fun _ => 0))), (qs, .inl (cI, 4, .inl (fun _ => 0)))])) := hD
        refine lv_aload_n hx hb dX3_init_104 rfl (lv_at hl 1 rfl) ?_
        refine lv_iload_n hx hb dX3_init_105 rfl (lv_at hl 3 rfl) ?_
        refine lv_if_ne (tgt := 113) hx hb dX3_init_106 (by decide) (fun h106 => ?_) (fun h106 => ?_)
        · refine lv_iconst (v := nI 0) hx hb dX3_init_113 (by decide) ?_
          refine nb_ren (y := nI ph) (by first | exact phst_3 hph h106 | exact phst_4 hph h106) ?_
          refine va_put (D := D) (ci := 3) (v := .int (nI ph)) (ty := tyX3 5) (C := RX3) (T := TX3) (N := 6) hx hb hts in3 tyX3 tyX3_ok nmX3 hown hK hP hD hS 0 rfl rfl 5 (by decide) (hts _ bw_131) (fun _ h9 => h9) rfl (tyX3_ok 5 (by decide)) rfl rfl (Nat.le_of_ble_eq_true rfl) dX3_init_114 (fun H locs hP hD hS => ?_)
          have hP : va_P D vcl (wl3 h0 qc qd cC cD k [.int (nI k), .ref qc, .ref qd, .ref qp, .ref qs, .int (nI ph)] (fbk k u 0) (fbk k u 3) (rlw u (gE u cI k) (4 * k) ++ [(qp, .inr (2, [.ref w9, .int (nI 0)])), (w9, .inl (cI, 400, .inl (fun _ => 0))), (qs, .inl (cI, 4, .inl (fun _ => 0)))])) H := hP
          have hD : va_D A (wl3 h0 qc qd cC cD k [.int (nI k), .ref qc, .ref qd, .ref qp, .ref qs, .int (nI ph)] (fbk k u 0) (fbk k u 3) (rlw u (gE u cI k) (4 * k) ++ [(qp, .inr (2, [.ref w9, .int (nI 0)])), (w9, .inl (cI, 400, .inl (fun _ => 0))), (qs, .inl (cI, 4, .inl (fun _ => 0)))])) := hD
          obtain ⟨hPf, hDf⟩ := finC (ar := ar) hnn.2 har hP hD
          rw [hQ0]
          exact W.vret hx hb hr (fun t ht hW => ⟨⟨_, rfl, rfl, by rw [ht]; exact hPf, hDf⟩, hS.F ht⟩) hS.2.2 dX3_init_117
        · refine lv_iconst (v := nI 3) hx hb dX3_init_109 (by decide) ?_
          refine lv_goto (tgt := 114) hx hb dX3_init_110 (by decide) ?_
          refine nb_ren (y := nI ph) (by first | exact phst_3 hph h106 | exact phst_4 hph h106) ?_
          refine va_put (D := D) (ci := 3) (v := .int (nI ph)) (ty := tyX3 5) (C := RX3) (T := TX3) (N := 6) hx hb hts in3 tyX3 tyX3_ok nmX3 hown hK hP hD hS 0 rfl rfl 5 (by decide) (hts _ bw_131) (fun _ h9 => h9) rfl (tyX3_ok 5 (by decide)) rfl rfl (Nat.le_of_ble_eq_true rfl) dX3_init_114 (fun H locs hP hD hS => ?_)
          have hP : va_P D vcl (wl3 h0 qc qd cC cD k [.int (nI k), .ref qc, .ref qd, .ref qp, .ref qs, .int (nI ph)] (fbk k u 0) (fbk k u 3) (rlw u (gE u cI k) (4 * k) ++ [(qp, .inr (2, [.ref w9, .int (nI 0)])), (w9, .inl (cI, 400, .inl (fun _ => 0))), (qs, .inl (cI, 4, .inl (fun _ => 0)))])) H := hP
          have hD : va_D A (wl3 h0 qc qd cC cD k [.int (nI k), .ref qc, .ref qd, .ref qp, .ref qs, .int (nI ph)] (fbk k u 0) (fbk k u 3) (rlw u (gE u cI k) (4 * k) ++ [(qp, .inr (2, [.ref w9, .int (nI 0)])), (w9, .inl (cI, 400, .inl (fun _ => 0))), (qs, .inl (cI, 4, .inl (fun _ => 0)))])) := hD
          obtain ⟨hPf, hDf⟩ := finC (ar := ar) hnn.2 har hP hD
          rw [hQ0]
          exact W.vret hx hb hr (fun t ht hW => ⟨⟨_, rfl, rfl, by rw [ht]; exact hPf, hDf⟩, hS.F ht⟩) hS.2.2 dX3_init_117
      · refine lv_aload_n hx hb dX3_init_50 rfl (lv_at hl 1 rfl) ?_
        refine va_get (D := D) (ci := 3) (v := .ref qc) (C := RX3) (T := TX3) (N := 6) hx hb hts in3 hown hK hP 0 rfl rfl 1 (by decide) (hts _ bw_127) (fun _ h9 => h9) rfl dX3_init_51 ?_
        refine lv_iload_n hx hb dX3_init_54 rfl (lv_at hl 0 rfl) ?_
        refine va_new (ci := 0) (fs := [.null, .null, .int 0, .int 0, .int 0, .int 0]) (C := RX0) (T := TX0) (N := 6) hx hb hts in0 tyX0 tyX0_ok hown (hts _ bw_59) (hts _ bw_63) (hts _ bw_34) hK hP hD hS hA rfl (fun j hj => by rcases (show j = 0 ∨ j = 1 ∨ j = 2 ∨ j = 3 ∨ j = 4 ∨ j = 5 by omega) with rfl | rfl | rfl | rfl | rfl | rfl <;> rfl) (by show 2 + 4 * k + 1 ≤ 29; omega) (by show 12 + 21 * k + 6 ≤ 544; omega) dX3_init_55 (fun qa H hP hD hS => ?_)
        refine lv_dup hx hb dX3_init_58 rfl ?_
        refine lv_aload_n hx hb dX3_init_59 rfl (lv_at hl 1 rfl) ?_
        refine va_get (D := D) (ci := 3) (v := .int (nI n)) (C := RX3) (T := TX3) (N := 6) hx hb hts in3 hown hK hP 0 rfl rfl 0 (by decide) (hts _ bw_126) (fun _ h9 => h9) rfl dX3_init_60 ?_
        have hP : va_P D vcl ((wl3 h0 qc qd cC cD n [.int (nI n), .ref qc, .ref qd, .null, .null, .int 0] (fbk k u 0) (fbk k u 3) (rlw u (gE u cI n) (4 * k))) ++ [(qa, .inr (0, [.null, .null, .int 0, .int 0, .int 0, .int 0]))]) H := hP
        have hD : va_D A ((wl3 h0 qc qd cC cD n [.int (nI n), .ref qc, .ref qd, .null, .null, .int 0] (fbk k u 0) (fbk k u 3) (rlw u (gE u cI n) (4 * k))) ++ [(qa, .inr (0, [.null, .null, .int 0, .int 0, .int 0, .int 0]))]) := hD
        have hPc := last_P hP
        have hDc := last_D hD
        have hKc : va_K D vcl [(cI, .int)] s := hK.sub [0] rfl
        have hFc := last_F hD hS hA
        refine va_callv (va_runIN (As := [.int (nI n)]) (rest := [.ref qa, .int (nI k), .ref qc]) (n := 1) (host := "LetterAuction") ⟨hx, hb, hml, hown, hts⟩ (i_Crew l D cI qa H.size n hnn.2) ⟨va_cnB 1 hts (bw_GI (fun _ h => h) (List.forall_mem_cons.mpr ⟨bw_66, fun _ h => h⟩)) rfl rfl rfl (hnw _ nw_0) (hts _ bw_34) hdX0_init.2 ⟨by decide, by decide⟩, rfl, (hts _ bw_65)⟩ ⟨fun a U g mk q => by obtain ⟨q0, q1, qP, qK, qD⟩ := q; exact ⟨q0, q1, qP, va_K.moved (u := U) (U := U.calling g mk a) (Vm.Alike.refl U.vm) qK, qD⟩, fun U hU hW => ⟨rfl, by rw [hU], by rw [hU]; exact hPc, va_K.moved hW.alike hKc, hDc⟩⟩ rfl rfl hl.1 rfl (lv_room (Nat.le_of_ble_eq_true rfl)) dX3_init_63 ⟨by show 2 + 4 * k + 1 + 2 ≤ 29; omega, by show 12 + 21 * k + 6 + 12 ≤ 544; omega⟩) hS (fun q _ h => hFc q h) hFc (fun w9 t H1 locs ht hvm hw hB hz1 hk1 hS => ?_)
        obtain ⟨hP1, hD1⟩ := hB
        rw [ht] at hP1
        obtain ⟨hP, hD⟩ := join_last hP hD hk1 hFc hP1 hD1
        generalize H1 = H at hP hS ⊢
        have hP : va_P D vcl (wl3 h0 qc qd cC cD n [.int (nI n), .ref qc, .ref qd, .null, .null, .int 0] (fbk k u 0) (fbk k u 3) (rlw u (gE u cI n) (4 * k) ++ [(qa, .inr (0, [.ref w9.1, .ref w9.2, .int (nI 0), .int (-1), .int (nI 0), .int (nI 0)])), (w9.1, .inl (cI, n, .inl (fun _ => 0))), (w9.2, .inl (cI, n, .inl (fun _ => 0)))])) H := hP
        have hD : va_D A (wl3 h0 qc qd cC cD n [.int (nI n), .ref qc, .ref qd, .null, .null, .int 0] (fbk k u 0) (fbk k u 3) (rlw u (gE u cI n) (4 * k) ++ [(qa, .inr (0, [.ref w9.1, .ref w9.2, .int (nI 0), .int (-1), .int (nI 0), .int (nI 0)])), (w9.1, .inl (cI, n, .inl (fun _ => 0))), (w9.2, .inl (cI, n, .inl (fun _ => 0)))])) := hD
        refine va_astq (D := D) hx hb hK hP hD hS 1 1 (4 * k + 3) 0 (r := (RX0, TX0, 6)) rfl rfl (vs := [.ref w9.1, .ref w9.2, .int (nI 0), .int (-1), .int (nI 0), .int (nI 0)]) (by show (rlw u (gE u cI n) (4 * k) ++ [(qa, .inr (0, [.ref w9.1, .ref w9.2, .int (nI 0), .int (-1), .int (nI 0), .int (nI 0)])), (w9.1, .inl (cI, n, .inl (fun _ => 0))), (w9.2, .inl (cI, n, .inl (fun _ => 0)))])[4 * k]? = _; rw [List.getElem?_append_right (by rw [rlw_len]; omega), rlw_len, Nat.sub_self]; rfl) rfl (vp_in_nI h47 (by omega)) dX3_init_66 (fun H locs hP hD hS => ?_)
        rw [nI_clamp (by omega)] at hP hD
        have hP : va_P D vcl (wl3 h0 qc qd cC cD n [.int (nI n), .ref qc, .ref qd, .null, .null, .int 0] (va_up (fbk k u 0) k (some qa)) (fbk k u 3) (rlw u (gE u cI n) (4 * k) ++ [(qa, .inr (0, [.ref w9.1, .ref w9.2, .int (nI 0), .int (-1), .int (nI 0), .int (nI 0)])), (w9.1, .inl (cI, n, .inl (fun _ => 0))), (w9.2, .inl (cI, n, .inl (fun _ => 0)))])) H := hP
        have hD : va_D A (wl3 h0 qc qd cC cD n [.int (nI n), .ref qc, .ref qd, .null, .null, .int 0] (va_up (fbk k u 0) k (some qa)) (fbk k u 3) (rlw u (gE u cI n) (4 * k) ++ [(qa, .inr (0, [.ref w9.1, .ref w9.2, .int (nI 0), .int (-1), .int (nI 0), .int (nI 0)])), (w9.1, .inl (cI, n, .inl (fun _ => 0))), (w9.2, .inl (cI, n, .inl (fun _ => 0)))])) := hD
        refine lv_aload_n hx hb dX3_init_67 rfl (lv_at hl 1 rfl) ?_
        refine va_get (D := D) (ci := 3) (v := .ref qd) (C := RX3) (T := TX3) (N := 6) hx hb hts in3 hown hK hP 0 rfl rfl 2 (by decide) (hts _ bw_128) (fun _ h9 => h9) rfl dX3_init_68 ?_
        refine lv_iload_n hx hb dX3_init_71 rfl (lv_at hl 0 rfl) ?_
        refine va_new (ci := 1) (fs := [.int 0, .int 0, .int 0]) (C := RX1) (T := TX1) (N := 3) hx hb hts in1 tyX1 tyX1_ok hown (hts _ bw_61) (hts _ bw_94) (hts _ bw_35) hK hP hD hS hA rfl (fun j hj => by rcases (show j = 0 ∨ j = 1 ∨ j = 2 by omega) with rfl | rfl | rfl <;> rfl) (by show 2 + 4 * k + 1 + 2 + 1 ≤ 29; omega) (by show 12 + 21 * k + 6 + 12 + 3 ≤ 544; omega) dX3_init_72 (fun qe H hP hD hS => ?_)
        refine lv_dup hx hb dX3_init_75 rfl ?_
        have hP : va_P D vcl ((wl3 h0 qc qd cC cD n [.int (nI n), .ref qc, .ref qd, .null, .null, .int 0] (va_up (fbk k u 0) k (some qa)) (fbk k u 3) (rlw u (gE u cI n) (4 * k) ++ [(qa, .inr (0, [.ref w9.1, .ref w9.2, .int (nI 0), .int (-1), .int (nI 0), .int (nI 0)])), (w9.1, .inl (cI, n, .inl (fun _ => 0))), (w9.2, .inl (cI, n, .inl (fun _ => 0)))])) ++ [(qe, .inr (1, [.int 0, .int 0, .int 0]))]) H := hP
        have hD : va_D A ((wl3 h0 qc qd cC cD n [.int (nI n), .ref qc, .ref qd, .null, .null, .int 0] (va_up (fbk k u 0) k (some qa)) (fbk k u 3) (rlw u (gE u cI n) (4 * k) ++ [(qa, .inr (0, [.ref w9.1, .ref w9.2, .int (nI 0), .int (-1), .int (nI 0), .int (nI 0)])), (w9.1, .inl (cI, n, .inl (fun _ => 0))), (w9.2, .inl (cI, n, .inl (fun _ => 0)))])) ++ [(qe, .inr (1, [.int 0, .int 0, .int 0]))]) := hD
        have hPc := last_P hP
        have hDc := last_D hD
        have hKc : va_K D vcl [(cI, .int)] s := hK.sub [0] rfl
        have hFc := last_F hD hS hA
        refine va_callv (va_runIN (As := []) (rest := [.ref qe, .int (nI k), .ref qd]) (n := 0) (host := "LetterAuction") ⟨hx, hb, hml, hown, hts⟩ (i_Desk l D cI qe H.size) ⟨va_cnB 0 hts (bw_GI (fun _ h => h) (List.forall_mem_cons.mpr ⟨bw_97, fun _ h => h⟩)) rfl rfl rfl (hnw _ nw_7) (hts _ bw_35) hdX1_init.2 ⟨by decide, by decide⟩, rfl, (hts _ bw_96)⟩ ⟨fun a U g mk q => by obtain ⟨q0, q1, qP, qK, qD⟩ := q; exact ⟨q0, q1, qP, va_K.moved (u := U) (U := U.calling g mk a) (Vm.Alike.refl U.vm) qK, qD⟩, fun U hU hW => ⟨rfl, by rw [hU], by rw [hU]; exact hPc, va_K.moved hW.alike hKc, hDc⟩⟩ rfl rfl hl.1 rfl (lv_room (Nat.le_of_ble_eq_true rfl)) dX3_init_76 ⟨by show 2 + 4 * k + 1 + 2 + 1 + 0 ≤ 29; omega, by show 12 + 21 * k + 6 + 12 + 3 + 0 ≤ 544; omega⟩) hS (fun q _ h => hFc q h) hFc (fun w8 t H1 locs ht hvm hw hB hz1 hk1 hS => ?_)
        obtain ⟨hP1, hD1⟩ := hB
        rw [ht] at hP1
        obtain ⟨hP, hD⟩ := join_last hP hD hk1 hFc hP1 hD1
        generalize H1 = H at hP hS ⊢
        have hP : va_P D vcl (wl3 h0 qc qd cC cD n [.int (nI n), .ref qc, .ref qd, .null, .null, .int 0] (va_up (fbk k u 0) k (some qa)) (fbk k u 3) ((rlw u (gE u cI n) (4 * k) ++ [(qa, .inr (0, [.ref w9.1, .ref w9.2, .int (nI 0), .int (-1), .int (nI 0), .int (nI 0)])), (w9.1, .inl (cI, n, .inl (fun _ => 0))), (w9.2, .inl (cI, n, .inl (fun _ => 0)))]) ++ [(qe, .inr (1, [.int (nI 0), .int (-1), .int (nI 0)]))])) H := hP
        have hD : va_D A (wl3 h0 qc qd cC cD n [.int (nI n), .ref qc, .ref qd, .null, .null, .int 0] (va_up (fbk k u 0) k (some qa)) (fbk k u 3) ((rlw u (gE u cI n) (4 * k) ++ [(qa, .inr (0, [.ref w9.1, .ref w9.2, .int (nI 0), .int (-1), .int (nI 0), .int (nI 0)])), (w9.1, .inl (cI, n, .inl (fun _ => 0))), (w9.2, .inl (cI, n, .inl (fun _ => 0)))]) ++ [(qe, .inr (1, [.int (nI 0), .int (-1), .int (nI 0)]))])) := hD
        refine va_astq (D := D) hx hb hK hP hD hS 2 2 (4 * k + 3 + 3) 1 (r := (RX1, TX1, 3)) rfl rfl (vs := [.int (nI 0), .int (-1), .int (nI 0)]) (by show ((rlw u (gE u cI n) (4 * k) ++ [(qa, .inr (0, [.ref w9.1, .ref w9.2, .int (nI 0), .int (-1), .int (nI 0), .int (nI 0)])), (w9.1, .inl (cI, n, .inl (fun _ => 0))), (w9.2, .inl (cI, n, .inl (fun _ => 0)))]) ++ [(qe, .inr (1, [.int (nI 0), .int (-1), .int (nI 0)]))])[4 * k + 3]? = _; rw [List.getElem?_append_right (by rw [List.length_append, rlw_len]; exact Nat.le_refl _), List.length_append, rlw_len]; show [_][4 * k + 3 - (4 * k + 3)]? = _; rw [Nat.sub_self]; rfl) rfl (vp_in_nI h47 (by omega)) dX3_init_79 (fun H locs hP hD hS => ?_)
        rw [nI_clamp (by omega)] at hP hD
        refine lv_iinc (v := nI (k + 1)) (lv' := [(3, .int (nI (k + 1))), (0, .ref h0), (1, .int x), (2, .int y)]) hx hb dX3_init_80 hl (k := 0) rfl (nI_s1 _) (by decide) rfl (fun ls hl => ?_)
        refine lv_goto (tgt := 42) hx hb dX3_init_83 (by decide) ?_
        have eW : wl3 h0 qc qd cC cD n [.int (nI n), .ref qc, .ref qd, .null, .null, .int 0] (va_up (fbk k u 0) k (some qa)) (va_up (fbk k u 3) k (some qe)) ((rlw u (gE u cI n) (4 * k) ++ [(qa, .inr (0, [.ref w9.1, .ref w9.2, .int (nI 0), .int (-1), .int (nI 0), .int (nI 0)])), (w9.1, .inl (cI, n, .inl (fun _ => 0))), (w9.2, .inl (cI, n, .inl (fun _ => 0)))]) ++ [(qe, .inr (1, [.int (nI 0), .int (-1), .int (nI 0)]))]) = wl3 h0 qc qd cC cD n [.int (nI n), .ref qc, .ref qd, .null, .null, .int 0] (fbk (k + 1) (u4 u k qa w9.1 w9.2 qe) 0) (fbk (k + 1) (u4 u k qa w9.1 w9.2 qe) 3) (rlw (u4 u k qa w9.1 w9.2 qe) (gE (u4 u k qa w9.1 w9.2 qe) cI n) (4 * (k + 1))) := by
          rw [fbk_s (b := w9.1) (c := w9.2) (d := qe) (by omega) (u4_0 (a := qa)), fbk_s (a := qa) (b := w9.1) (c := w9.2) (by omega) (u4_3 (d := qe)), List.append_assoc, ← grow4]
          rfl
        have hP : va_P D vcl _ H := hP
        have hP : va_P D vcl (wl3 h0 qc qd cC cD n [.int (nI n), .ref qc, .ref qd, .null, .null, .int 0] (va_up (fbk k u 0) k (some qa)) (va_up (fbk k u 3) k (some qe)) ((rlw u (gE u cI n) (4 * k) ++ [(qa, .inr (0, [.ref w9.1, .ref w9.2, .int (nI 0), .int (-1), .int (nI 0), .int (nI 0)])), (w9.1, .inl (cI, n, .inl (fun _ => 0))), (w9.2, .inl (cI, n, .inl (fun _ => 0)))]) ++ [(qe, .inr (1, [.int (nI 0), .int (-1), .int (nI 0)]))])) H := hP
        have hD : va_D A (wl3 h0 qc qd cC cD n [.int (nI n), .ref qc, .ref qd, .null, .null, .int 0] (va_up (fbk k u 0) k (some qa)) (va_up (fbk k u 3) k (some qe)) ((rlw u (gE u cI n) (4 * k) ++ [(qa, .inr (0, [.ref w9.1, .ref w9.2, .int (nI 0), .int (-1), .int (nI 0), .int (nI 0)])), (w9.1, .inl (cI, n, .inl (fun _ => 0))), (w9.2, .inl (cI, n, .inl (fun _ => 0)))]) ++ [(qe, .inr (1, [.int (nI 0), .int (-1), .int (nI 0)]))])) := hD
        rw [eW] at hP hD
        refine W.widen (k := 2 + 4 * (k + 1)) (n := 12 + 21 * (k + 1)) (by omega) (by omega) ?_
        exact ih (k + 1) (u4 u k qa w9.1 w9.2 qe) (by omega) (by omega) H locs hP hD hS ls hl
  refine L42 (n + 1) 0 (fun _ => 0) (by omega) (by omega) H locs ?_ ?_ hS ls hl
  · rw [fbk_0, fbk_0]; exact hP
  · rw [fbk_0, fbk_0]; exact hD
