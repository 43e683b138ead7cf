/-! the model's constructor -/
def clampd (x : Int32) (n : Nat) : Prop := (x < nI 2 ∧ n = 2) ∨ (nI 6 < x ∧ n = 6) ∨ (2 ≤ n ∧ n ≤ 6 ∧ x = nI n)
theorem clampd_le {x : Int32} {n : Nat} (h : clampd x n) : 2 ≤ n ∧ n ≤ 6 := by rcases h with ⟨_, e⟩ | ⟨_, e⟩ | ⟨a, b, _⟩ <;> omega
theorem clampd_ex (x : Int32) : ∃ n, clampd x n := by
  by_cases h : x < nI 2
  · exact ⟨2, Or.inl ⟨h, rfl⟩⟩
  · by_cases h2 : nI 6 < x
    · exact ⟨6, Or.inr (Or.inl ⟨h2, rfl⟩)⟩
    · have h0 : ¬ x < 0 := by
        rw [Int32.lt_iff_toInt_lt, nI_toInt (by omega)] at h
        rw [Int32.lt_iff_toInt_lt, Int32.toInt_zero]
        omega
      obtain ⟨j, hj, e⟩ := nI_of2 (M := nI 6) (n := 6) (nI_toInt (by omega)) h0 (Int32.not_lt.mp h2)
      refine ⟨j, Or.inr (Or.inr ⟨?_, hj, e⟩)⟩
      rw [e, Int32.lt_iff_toInt_lt, nI_toInt (by omega), nI_toInt (by omega)] at h
      omega
theorem clamp_1 {x : Int32} {n : Nat} (hc : clampd x n) (h : ¬ nI 2 ≤ x) : nI 2 = nI n := by
  rw [Int32.le_iff_toInt_le, nI_toInt (by omega)] at h
  rcases hc with ⟨_, e⟩ | ⟨q, e⟩ | ⟨a, b, e⟩
  · rw [e]
  · rw [Int32.lt_iff_toInt_lt, nI_toInt (by omega)] at q; omega
  · rw [e, nI_toInt (by omega)] at h; omega
theorem clamp_2 {x : Int32} {n : Nat} (hc : clampd x n) (h : ¬ x ≤ nI 6) : nI 6 = nI n := by
  rw [Int32.le_iff_toInt_le, nI_toInt (by omega)] at h
  rcases hc with ⟨q, e⟩ | ⟨q, e⟩ | ⟨a, b, e⟩
  · rw [Int32.lt_iff_toInt_lt, nI_toInt (by omega)] at q; omega
  · rw [e]
  · rw [e, nI_toInt (by omega)] at h; omega
theorem clamp_3 {x : Int32} {n : Nat} (hc : clampd x n) (h : nI 2 ≤ x) (h2 : x ≤ nI 6) : x = nI n := by
  rw [Int32.le_iff_toInt_le, nI_toInt (by omega)] at h h2
  rcases hc with ⟨q, e⟩ | ⟨q, e⟩ | ⟨a, b, e⟩
  · rw [Int32.lt_iff_toInt_lt, nI_toInt (by omega)] at q; omega
  · rw [Int32.lt_iff_toInt_lt, nI_toInt (by omega)] at q; omega
  · exact e
def phst (y : Int32) (ph : Nat) : Prop := (y = 0 ∧ ph = 3) ∨ (¬ y = 0 ∧ ph = 0)
theorem phst_1 {y : Int32} {ph : Nat} (h : phst y ph) (h0 : ¬ y = 0) : nI 64 = stp ph := by
  rcases h with ⟨a, b⟩ | ⟨a, b⟩
  · exact absurd a h0
  · rw [b]; decide
theorem phst_2 {y : Int32} {ph : Nat} (h : phst y ph) (h0 : y = 0) : nI 1 = stp ph := by
  rcases h with ⟨a, b⟩ | ⟨a, b⟩
  · rw [b]; decide
  · exact absurd h0 a
theorem kc_i3 {D : va_G} {tys2 : List (ClassId × FieldType)} {s : State} {cA cI cC cD : ClassId} (h2 : va_K D vcl (tys2 ++ [(cA, .int)]) s) (h : va_K D vcl (ty3 cI cC cD) s) : cA = cI := kc_int h2 tys2.length h 0

def ar0 : Nat → Nat → Int32 := fun _ _ => 0
set_option maxHeartbeats 4000000 in
set_option maxRecDepth 100000 in
theorem m_init (l : Launch) (D : va_G) (cI cC cD : ClassId) (h0 sz n ph : Nat) (x y : Int32) (hcl : clampd x n) (hph : phst y ph) : Met l yX4_init (.code yX4_init cX4_init 3 none :: bw) ({ frames := 1, cells := 11, slots := 718, locals := 21 }) (va_Pc [.ref h0, .int x, .int y] (fun U => U.heap.size = sz ∧ va_P D vcl ([(h0, .inr (4, [.int 0, .int 0, .int 0, .null, .null, .null, .null, .null, .null, .null, .null, .null, .int 0, .null, .null]))]) U.heap ∧ va_K D vcl (ty3 cI cC cD) U ∧ va_D (fun _ => True) ([(h0, .inr (4, [.int 0, .int 0, .int 0, .null, .null, .null, .null, .null, .null, .null, .null, .null, .int 0, .null, .null]))]))) (va_Qv (fun u : Nat → Nat => u 0 = h0) (fun u t => va_P D vcl (rlw u (mE u cI 0 n (stp ph) 0 (va_up (va_up (va_up (va_up ar0 4 (fz (ar0 4) 6 (-1))) 5 (fz (ar0 5) 6 (nI 0))) 6 (fz (ar0 6) 6 (nI 0))) 7 (fz (ar0 7) 6 (-1)))) 12) t.heap ∧ va_D (va_A ([(h0, .inr (4, [.int 0, .int 0, .int 0, .null, .null, .null, .null, .null, .null, .null, .null, .null, .int 0, .null, .null]))]) sz) (rlw u (mE u cI 0 n (stp ph) 0 (va_up (va_up (va_up (va_up ar0 4 (fz (ar0 4) 6 (-1))) 5 (fz (ar0 5) 6 (nI 0))) 6 (fz (ar0 6) 6 (nI 0))) 7 (fz (ar0 7) 6 (-1)))) 12)) (va_A ([(h0, .inr (4, [.int 0, .int 0, .int 0, .null, .null, .null, .null, .null, .null, .null, .null, .null, .int 0, .null, .null]))]) sz)) 11 718 (va_A ([(h0, .inr (4, [.int 0, .int 0, .int 0, .null, .null, .null, .null, .null, .null, .null, .null, .null, .int 0, .null, .null]))]) sz) := by
  have hnn := clampd_le hcl
  refine Met.ofW (cc := cX4_init) (maxL := 3) (ret := none) (by decide) rfl ?_
  intro p e s m args below meth c0 s₁ B hml hv
  obtain ⟨rfl, hsz, hP, hK, hD0⟩ := hv
  have hx := B.exec
  have hb := B.bytes
  have hr := B.returns
  have hts : ∀ w ∈ bw, w.before _ s = true := fun w hw => atoms_spec (ws := Cond.code yX4_init cX4_init 3 none :: bw) B.pre w (List.mem_cons_of_mem _ hw)
  have hown : s.vm.findClass yX4_init.cls = some m.cls := findClass_of_methodNamed B.named
  have hlocks := B.notSynchronized
  have hin : meth.name = "<init>" := (name_of_methodNamed B.named B.method).1
  subst hsz
  have hD := hD0.self (sz := s.heap.size)
  generalize hAe : va_A ([(h0, .inr (4, [.int 0, .int 0, .int 0, .null, .null, .null, .null, .null, .null, .null, .null, .null, .int 0, .null, .null]))]) s.heap.size = A at hD ⊢
  have hA : ∀ q : Nat, s.heap.size ≤ q → A q := fun q h => by rw [← hAe]; exact Or.inr h
  have hS : va_S A s.heap s.heap [] := va_S.rf
  have hl := lv_entry [.ref h0, .int x, .int y] (n := 3) (Nat.le_of_ble_eq_true rfl)
  rw [lg_entry_eq]
  generalize (lg_sl [.ref h0, .int x, .int y] ++ List.replicate (3 - (lg_sl [.ref h0, .int x, .int y]).length) Slot.unset).toArray = ls at hl ⊢
  have hl : lv_has ls 3 [(0, .ref h0), (1, .int x), (2, .int y)] := hl
  refine lv_aload_n hx hb dX4_init_0 rfl (lv_at hl 0 rfl) ?_
  refine W.objInit hx hb hown (hts _ bw_457) (hts _ bw_51) (hts _ bw_52) rfl (by rw [hml]; exact hl.1) rfl dX4_init_1 (Nat.le_of_ble_eq_true rfl) (Nat.le_of_ble_eq_true rfl) ?_
  refine W.eq (g2 := F0 m 4 ls []) rfl ?_
  refine lv_aload_n hx hb dX4_init_4 rfl (lv_at hl 0 rfl) ?_
  refine lv_bipush (v := nI 36) hx hb dX4_init_5 (by decide) ?_
  refine va_newa (D := D) (atype := .int) (ty := .int) (N' := 36) (a0 := (36, .inl (fun _ => 0))) hx hb (hts _ bw_93) rfl hK hP hD hS hA (fun cA => rfl) (nI_pos (by omega)) (nI_clamp (by omega)) (by show 36 * 4 ≤ 536870912; omega) (by show 0 + 1 ≤ 11; omega) (by show 0 + 36 ≤ 718; omega) dX4_init_7 (fun q7 cA7 H hK2 hP hD hS => ?_)
  have hcA7 : cA7 = cI := kc_int hK2 3 hK 0
  rw [hcA7] at hP hD
  have hP : va_P D vcl ([(h0, .inr (4, [.int 0, .int 0, .int 0, .null, .null, .null, .null, .null, .null, .null, .null, .null, .int 0, .null, .null])), (q7, .inl (cI, 36, .inl (fun _ => 0)))]) H := hP
  have hD : va_D A ([(h0, .inr (4, [.int 0, .int 0, .int 0, .null, .null, .null, .null, .null, .null, .null, .null, .null, .int 0, .null, .null])), (q7, .inl (cI, 36, .inl (fun _ => 0)))]) := hD
  refine W.widen (k := 1) (n := 36) (by omega) (by omega) ?_
  refine va_put (D := D) (ci := 4) (v := .ref q7) (ty := tyX4 3) (C := RX4) (T := TX4) (N := 15) hx hb hts in4 tyX4 tyX4_ok nmX4 hown hK hP hD hS 0 rfl rfl 3 (by decide) (hts _ bw_465) (fun _ h9 => h9) rfl (tyX4_ok 3 (by decide)) rfl rfl (Nat.le_of_ble_eq_true rfl) dX4_init_9 (fun H locs hP hD hS => ?_)
  have hP : va_P D vcl ([(h0, .inr (4, [.int 0, .int 0, .int 0, .ref q7, .null, .null, .null, .null, .null, .null, .null, .null, .int 0, .null, .null])), (q7, .inl (cI, 36, .inl (fun _ => 0)))]) H := hP
  have hD : va_D A ([(h0, .inr (4, [.int 0, .int 0, .int 0, .ref q7, .null, .null, .null, .null, .null, .null, .null, .null, .int 0, .null, .null])), (q7, .inl (cI, 36, .inl (fun _ => 0)))]) := hD
  refine lv_aload_n hx hb dX4_init_12 rfl (lv_at hl 0 rfl) ?_
  refine lv_bipush (v := nI 36) hx hb dX4_init_13 (by decide) ?_
  refine va_newa (D := D) (atype := .int) (ty := .int) (N' := 36) (a0 := (36, .inl (fun _ => 0))) hx hb (hts _ bw_93) rfl hK hP hD hS hA (fun cA => rfl) (nI_pos (by omega)) (nI_clamp (by omega)) (by show 36 * 4 ≤ 536870912; omega) (by show 1 + 1 ≤ 11; omega) (by show 36 + 36 ≤ 718; omega) dX4_init_15 (fun q15 cA15 H hK2 hP hD hS => ?_)
  have hcA15 : cA15 = cI := kc_int hK2 3 hK 0
  rw [hcA15] at hP hD
  have hP : va_P D vcl ([(h0, .inr (4, [.int 0, .int 0, .int 0, .ref q7, .null, .null, .null, .null, .null, .null, .null, .null, .int 0, .null, .null])), (q7, .inl (cI, 36, .inl (fun _ => 0))), (q15, .inl (cI, 36, .inl (fun _ => 0)))]) H := hP
  have hD : va_D A ([(h0, .inr (4, [.int 0, .int 0, .int 0, .ref q7, .null, .null, .null, .null, .null, .null, .null, .null, .int 0, .null, .null])), (q7, .inl (cI, 36, .inl (fun _ => 0))), (q15, .inl (cI, 36, .inl (fun _ => 0)))]) := hD
  refine W.widen (k := 2) (n := 72) (by omega) (by omega) ?_
  refine va_put (D := D) (ci := 4) (v := .ref q15) (ty := tyX4 4) (C := RX4) (T := TX4) (N := 15) hx hb hts in4 tyX4 tyX4_ok nmX4 hown hK hP hD hS 0 rfl rfl 4 (by decide) (hts _ bw_466) (fun _ h9 => h9) rfl (tyX4_ok 4 (by decide)) rfl rfl (Nat.le_of_ble_eq_true rfl) dX4_init_17 (fun H locs hP hD hS => ?_)
  have hP : va_P D vcl ([(h0, .inr (4, [.int 0, .int 0, .int 0, .ref q7, .ref q15, .null, .null, .null, .null, .null, .null, .null, .int 0, .null, .null])), (q7, .inl (cI, 36, .inl (fun _ => 0))), (q15, .inl (cI, 36, .inl (fun _ => 0)))]) H := hP
  have hD : va_D A ([(h0, .inr (4, [.int 0, .int 0, .int 0, .ref q7, .ref q15, .null, .null, .null, .null, .null, .null, .null, .int 0, .null, .null])), (q7, .inl (cI, 36, .inl (fun _ => 0))), (q15, .inl (cI, 36, .inl (fun _ => 0)))]) := hD
  refine lv_aload_n hx hb dX4_init_20 rfl (lv_at hl 0 rfl) ?_
  refine lv_bipush (v := nI 6) hx hb dX4_init_21 (by decide) ?_
  refine va_newa (D := D) (atype := .int) (ty := .int) (N' := 6) (a0 := (6, .inl (fun _ => 0))) hx hb (hts _ bw_93) rfl hK hP hD hS hA (fun cA => rfl) (nI_pos (by omega)) (nI_clamp (by omega)) (by show 6 * 4 ≤ 536870912; omega) (by show 2 + 1 ≤ 11; omega) (by show 72 + 6 ≤ 718; omega) dX4_init_23 (fun q23 cA23 H hK2 hP hD hS => ?_)
  have hcA23 : cA23 = cI := kc_int hK2 3 hK 0
  rw [hcA23] at hP hD
  have hP : va_P D vcl ([(h0, .inr (4, [.int 0, .int 0, .int 0, .ref q7, .ref q15, .null, .null, .null, .null, .null, .null, .null, .int 0, .null, .null])), (q7, .inl (cI, 36, .inl (fun _ => 0))), (q15, .inl (cI, 36, .inl (fun _ => 0))), (q23, .inl (cI, 6, .inl (fun _ => 0)))]) H := hP
  have hD : va_D A ([(h0, .inr (4, [.int 0, .int 0, .int 0, .ref q7, .ref q15, .null, .null, .null, .null, .null, .null, .null, .int 0, .null, .null])), (q7, .inl (cI, 36, .inl (fun _ => 0))), (q15, .inl (cI, 36, .inl (fun _ => 0))), (q23, .inl (cI, 6, .inl (fun _ => 0)))]) := hD
  refine W.widen (k := 3) (n := 78) (by omega) (by omega) ?_
  refine va_put (D := D) (ci := 4) (v := .ref q23) (ty := tyX4 5) (C := RX4) (T := TX4) (N := 15) hx hb hts in4 tyX4 tyX4_ok nmX4 hown hK hP hD hS 0 rfl rfl 5 (by decide) (hts _ bw_467) (fun _ h9 => h9) rfl (tyX4_ok 5 (by decide)) rfl rfl (Nat.le_of_ble_eq_true rfl) dX4_init_25 (fun H locs hP hD hS => ?_)
  have hP : va_P D vcl ([(h0, .inr (4, [.int 0, .int 0, .int 0, .ref q7, .ref q15, .ref q23, .null, .null, .null, .null, .null, .null, .int 0, .null, .null])), (q7, .inl (cI, 36, .inl (fun _ => 0))), (q15, .inl (cI, 36, .inl (fun _ => 0))), (q23, .inl (cI, 6, .inl (fun _ => 0)))]) H := hP
  have hD : va_D A ([(h0, .inr (4, [.int 0, .int 0, .int 0, .ref q7, .ref q15, .ref q23, .null, .null, .null, .null, .null, .null, .int 0, .null, .null])), (q7, .inl (cI, 36, .inl (fun _ => 0))), (q15, .inl (cI, 36, .inl (fun _ => 0))), (q23, .inl (cI, 6, .inl (fun _ => 0)))]) := hD
  refine lv_aload_n hx hb dX4_init_28 rfl (lv_at hl 0 rfl) ?_
  refine lv_bipush (v := nI 6) hx hb dX4_init_29 (by decide) ?_
  refine va_newa (D := D) (atype := .int) (ty := .int) (N' := 6) (a0 := (6, .inl (fun _ => 0))) hx hb (hts _ bw_93) rfl hK hP hD hS hA (fun cA => rfl) (nI_pos (by omega)) (nI_clamp (by omega)) (by show 6 * 4 ≤ 536870912; omega) (by show 3 + 1 ≤ 11; omega) (by show 78 + 6 ≤ 718; omega) dX4_init_31 (fun q31 cA31 H hK2 hP hD hS => ?_)
  have hcA31 : cA31 = cI := kc_int hK2 3 hK 0
  rw [hcA31] at hP hD
  have hP : va_P D vcl ([(h0, .inr (4, [.int 0, .int 0, .int 0, .ref q7, .ref q15, .ref q23, .null, .null, .null, .null, .null, .null, .int 0, .null, .null])), (q7, .inl (cI, 36, .inl (fun _ => 0))), (q15, .inl (cI, 36, .inl (fun _ => 0))), (q23, .inl (cI, 6, .inl (fun _ => 0))), (q31, .inl (cI, 6, .inl (fun _ => 0)))]) H := hP
  have hD : va_D A ([(h0, .inr (4, [.int 0, .int 0, .int 0, .ref q7, .ref q15, .ref q23, .null, .null, .null, .null, .null, .null, .int 0, .null, .null])), (q7, .inl (cI, 36, .inl (fun _ => 0))), (q15, .inl (cI, 36, .inl (fun _ => 0))), (q23, .inl (cI, 6, .inl (fun _ => 0))), (q31, .inl (cI, 6, .inl (fun _ => 0)))]) := hD
  refine W.widen (k := 4) (n := 84) (by omega) (by omega) ?_
  refine va_put (D := D) (ci := 4) (v := .ref q31) (ty := tyX4 6) (C := RX4) (T := TX4) (N := 15) hx hb hts in4 tyX4 tyX4_ok nmX4 hown hK hP hD hS 0 rfl rfl 6 (by decide) (hts _ bw_468) (fun _ h9 => h9) rfl (tyX4_ok 6 (by decide)) rfl rfl (Nat.le_of_ble_eq_true rfl) dX4_init_33 (fun H locs hP hD hS => ?_)
  have hP : va_P D vcl ([(h0, .inr (4, [.int 0, .int 0, .int 0, .ref q7, .ref q15, .ref q23, .ref q31, .null, .null, .null, .null, .null, .int 0, .null, .null])), (q7, .inl (cI, 36, .inl (fun _ => 0))), (q15, .inl (cI, 36, .inl (fun _ => 0))), (q23, .inl (cI, 6, .inl (fun _ => 0))), (q31, .inl (cI, 6, .inl (fun _ => 0)))]) H := hP
  have hD : va_D A ([(h0, .inr (4, [.int 0, .int 0, .int 0, .ref q7, .ref q15, .ref q23, .ref q31, .null, .null, .null, .null, .null, .int 0, .null, .null])), (q7, .inl (cI, 36, .inl (fun _ => 0))), (q15, .inl (cI, 36, .inl (fun _ => 0))), (q23, .inl (cI, 6, .inl (fun _ => 0))), (q31, .inl (cI, 6, .inl (fun _ => 0)))]) := hD
  refine lv_aload_n hx hb dX4_init_36 rfl (lv_at hl 0 rfl) ?_
  refine lv_bipush (v := nI 6) hx hb dX4_init_37 (by decide) ?_
  refine va_newa (D := D) (atype := .int) (ty := .int) (N' := 6) (a0 := (6, .inl (fun _ => 0))) hx hb (hts _ bw_93) rfl hK hP hD hS hA (fun cA => rfl) (nI_pos (by omega)) (nI_clamp (by omega)) (by show 6 * 4 ≤ 536870912; omega) (by show 4 + 1 ≤ 11; omega) (by show 84 + 6 ≤ 718; omega) dX4_init_39 (fun q39 cA39 H hK2 hP hD hS => ?_)
  have hcA39 : cA39 = cI := kc_int hK2 3 hK 0
  rw [hcA39] at hP hD
  have hP : va_P D vcl ([(h0, .inr (4, [.int 0, .int 0, .int 0, .ref q7, .ref q15, .ref q23, .ref q31, .null, .null, .null, .null, .null, .int 0, .null, .null])), (q7, .inl (cI, 36, .inl (fun _ => 0))), (q15, .inl (cI, 36, .inl (fun _ => 0))), (q23, .inl (cI, 6, .inl (fun _ => 0))), (q31, .inl (cI, 6, .inl (fun _ => 0))), (q39, .inl (cI, 6, .inl (fun _ => 0)))]) H := hP
  have hD : va_D A ([(h0, .inr (4, [.int 0, .int 0, .int 0, .ref q7, .ref q15, .ref q23, .ref q31, .null, .null, .null, .null, .null, .int 0, .null, .null])), (q7, .inl (cI, 36, .inl (fun _ => 0))), (q15, .inl (cI, 36, .inl (fun _ => 0))), (q23, .inl (cI, 6, .inl (fun _ => 0))), (q31, .inl (cI, 6, .inl (fun _ => 0))), (q39, .inl (cI, 6, .inl (fun _ => 0)))]) := hD
  refine W.widen (k := 5) (n := 90) (by omega) (by omega) ?_
  refine va_put (D := D) (ci := 4) (v := .ref q39) (ty := tyX4 7) (C := RX4) (T := TX4) (N := 15) hx hb hts in4 tyX4 tyX4_ok nmX4 hown hK hP hD hS 0 rfl rfl 7 (by decide) (hts _ bw_469) (fun _ h9 => h9) rfl (tyX4_ok 7 (by decide)) rfl rfl (Nat.le_of_ble_eq_true rfl) dX4_init_41 (fun H locs hP hD hS => ?_)
  have hP : va_P D vcl ([(h0, .inr (4, [.int 0, .int 0, .int 0, .ref q7, .ref q15, .ref q23, .ref q31, .ref q39, .null, .null, .null, .null, .int 0, .null, .null])), (q7, .inl (cI, 36, .inl (fun _ => 0))), (q15, .inl (cI, 36, .inl (fun _ => 0))), (q23, .inl (cI, 6, .inl (fun _ => 0))), (q31, .inl (cI, 6, .inl (fun _ => 0))), (q39, .inl (cI, 6, .inl (fun _ => 0)))]) H := hP
  have hD : va_D A ([(h0, .inr (4, [.int 0, .int 0, .int 0, .ref q7, .ref q15, .ref q23, .ref q31, .ref q39, .null, .null, .null, .null, .int 0, .null, .null])), (q7, .inl (cI, 36, .inl (fun _ => 0))), (q15, .inl (cI, 36, .inl (fun _ => 0))), (q23, .inl (cI, 6, .inl (fun _ => 0))), (q31, .inl (cI, 6, .inl (fun _ => 0))), (q39, .inl (cI, 6, .inl (fun _ => 0)))]) := hD
  refine lv_aload_n hx hb dX4_init_44 rfl (lv_at hl 0 rfl) ?_
  refine lv_bipush (v := nI 6) hx hb dX4_init_45 (by decide) ?_
  refine va_newa (D := D) (atype := .int) (ty := .int) (N' := 6) (a0 := (6, .inl (fun _ => 0))) hx hb (hts _ bw_93) rfl hK hP hD hS hA (fun cA => rfl) (nI_pos (by omega)) (nI_clamp (by omega)) (by show 6 * 4 ≤ 536870912; omega) (by show 5 + 1 ≤ 11; omega) (by show 90 + 6 ≤ 718; omega) dX4_init_47 (fun q47 cA47 H hK2 hP hD hS => ?_)
  have hcA47 : cA47 = cI := kc_int hK2 3 hK 0
  rw [hcA47] at hP hD
  have hP : va_P D vcl ([(h0, .inr (4, [.int 0, .int 0, .int 0, .ref q7, .ref q15, .ref q23, .ref q31, .ref q39, .null, .null, .null, .null, .int 0, .null, .null])), (q7, .inl (cI, 36, .inl (fun _ => 0))), (q15, .inl (cI, 36, .inl (fun _ => 0))), (q23, .inl (cI, 6, .inl (fun _ => 0))), (q31, .inl (cI, 6, .inl (fun _ => 0))), (q39, .inl (cI, 6, .inl (fun _ => 0))), (q47, .inl (cI, 6, .inl (fun _ => 0)))]) H := hP
  have hD : va_D A ([(h0, .inr (4, [.int 0, .int 0, .int 0, .ref q7, .ref q15, .ref q23, .ref q31, .ref q39, .null, .null, .null, .null, .int 0, .null, .null])), (q7, .inl (cI, 36, .inl (fun _ => 0))), (q15, .inl (cI, 36, .inl (fun _ => 0))), (q23, .inl (cI, 6, .inl (fun _ => 0))), (q31, .inl (cI, 6, .inl (fun _ => 0))), (q39, .inl (cI, 6, .inl (fun _ => 0))), (q47, .inl (cI, 6, .inl (fun _ => 0)))]) := hD
  refine W.widen (k := 6) (n := 96) (by omega) (by omega) ?_
  refine va_put (D := D) (ci := 4) (v := .ref q47) (ty := tyX4 8) (C := RX4) (T := TX4) (N := 15) hx hb hts in4 tyX4 tyX4_ok nmX4 hown hK hP hD hS 0 rfl rfl 8 (by decide) (hts _ bw_470) (fun _ h9 => h9) rfl (tyX4_ok 8 (by decide)) rfl rfl (Nat.le_of_ble_eq_true rfl) dX4_init_49 (fun H locs hP hD hS => ?_)
  have hP : va_P D vcl ([(h0, .inr (4, [.int 0, .int 0, .int 0, .ref q7, .ref q15, .ref q23, .ref q31, .ref q39, .ref q47, .null, .null, .null, .int 0, .null, .null])), (q7, .inl (cI, 36, .inl (fun _ => 0))), (q15, .inl (cI, 36, .inl (fun _ => 0))), (q23, .inl (cI, 6, .inl (fun _ => 0))), (q31, .inl (cI, 6, .inl (fun _ => 0))), (q39, .inl (cI, 6, .inl (fun _ => 0))), (q47, .inl (cI, 6, .inl (fun _ => 0)))]) H := hP
  have hD : va_D A ([(h0, .inr (4, [.int 0, .int 0, .int 0, .ref q7, .ref q15, .ref q23, .ref q31, .ref q39, .ref q47, .null, .null, .null, .int 0, .null, .null])), (q7, .inl (cI, 36, .inl (fun _ => 0))), (q15, .inl (cI, 36, .inl (fun _ => 0))), (q23, .inl (cI, 6, .inl (fun _ => 0))), (q31, .inl (cI, 6, .inl (fun _ => 0))), (q39, .inl (cI, 6, .inl (fun _ => 0))), (q47, .inl (cI, 6, .inl (fun _ => 0)))]) := hD
  refine lv_aload_n hx hb dX4_init_52 rfl (lv_at hl 0 rfl) ?_
  refine lv_bipush (v := nI 6) hx hb dX4_init_53 (by decide) ?_
  refine va_newa (D := D) (atype := .int) (ty := .int) (N' := 6) (a0 := (6, .inl (fun _ => 0))) hx hb (hts _ bw_93) rfl hK hP hD hS hA (fun cA => rfl) (nI_pos (by omega)) (nI_clamp (by omega)) (by show 6 * 4 ≤ 536870912; omega) (by show 6 + 1 ≤ 11; omega) (by show 96 + 6 ≤ 718; omega) dX4_init_55 (fun q55 cA55 H hK2 hP hD hS => ?_)
  have hcA55 : cA55 = cI := kc_int hK2 3 hK 0
  rw [hcA55] at hP hD
  have hP : va_P D vcl ([(h0, .inr (4, [.int 0, .int 0, .int 0, .ref q7, .ref q15, .ref q23, .ref q31, .ref q39, .ref q47, .null, .null, .null, .int 0, .null, .null])), (q7, .inl (cI, 36, .inl (fun _ => 0))), (q15, .inl (cI, 36, .inl (fun _ => 0))), (q23, .inl (cI, 6, .inl (fun _ => 0))), (q31, .inl (cI, 6, .inl (fun _ => 0))), (q39, .inl (cI, 6, .inl (fun _ => 0))), (q47, .inl (cI, 6, .inl (fun _ => 0))), (q55, .inl (cI, 6, .inl (fun _ => 0)))]) H := hP
  have hD : va_D A ([(h0, .inr (4, [.int 0, .int 0, .int 0, .ref q7, .ref q15, .ref q23, .ref q31, .ref q39, .ref q47, .null, .null, .null, .int 0, .null, .null])), (q7, .inl (cI, 36, .inl (fun _ => 0))), (q15, .inl (cI, 36, .inl (fun _ => 0))), (q23, .inl (cI, 6, .inl (fun _ => 0))), (q31, .inl (cI, 6, .inl (fun _ => 0))), (q39, .inl (cI, 6, .inl (fun _ => 0))), (q47, .inl (cI, 6, .inl (fun _ => 0))), (q55, .inl (cI, 6, .inl (fun _ => 0)))]) := hD
  refine W.widen (k := 7) (n := 102) (by omega) (by omega) ?_
  refine va_put (D := D) (ci := 4) (v := .ref q55) (ty := tyX4 9) (C := RX4) (T := TX4) (N := 15) hx hb hts in4 tyX4 tyX4_ok nmX4 hown hK hP hD hS 0 rfl rfl 9 (by decide) (hts _ bw_471) (fun _ h9 => h9) rfl (tyX4_ok 9 (by decide)) rfl rfl (Nat.le_of_ble_eq_true rfl) dX4_init_57 (fun H locs hP hD hS => ?_)
  have hP : va_P D vcl ([(h0, .inr (4, [.int 0, .int 0, .int 0, .ref q7, .ref q15, .ref q23, .ref q31, .ref q39, .ref q47, .ref q55, .null, .null, .int 0, .null, .null])), (q7, .inl (cI, 36, .inl (fun _ => 0))), (q15, .inl (cI, 36, .inl (fun _ => 0))), (q23, .inl (cI, 6, .inl (fun _ => 0))), (q31, .inl (cI, 6, .inl (fun _ => 0))), (q39, .inl (cI, 6, .inl (fun _ => 0))), (q47, .inl (cI, 6, .inl (fun _ => 0))), (q55, .inl (cI, 6, .inl (fun _ => 0)))]) H := hP
  have hD : va_D A ([(h0, .inr (4, [.int 0, .int 0, .int 0, .ref q7, .ref q15, .ref q23, .ref q31, .ref q39, .ref q47, .ref q55, .null, .null, .int 0, .null, .null])), (q7, .inl (cI, 36, .inl (fun _ => 0))), (q15, .inl (cI, 36, .inl (fun _ => 0))), (q23, .inl (cI, 6, .inl (fun _ => 0))), (q31, .inl (cI, 6, .inl (fun _ => 0))), (q39, .inl (cI, 6, .inl (fun _ => 0))), (q47, .inl (cI, 6, .inl (fun _ => 0))), (q55, .inl (cI, 6, .inl (fun _ => 0)))]) := hD
  refine lv_aload_n hx hb dX4_init_60 rfl (lv_at hl 0 rfl) ?_
  refine lv_bipush (v := nI 6) hx hb dX4_init_61 (by decide) ?_
  refine va_newa (D := D) (atype := .int) (ty := .int) (N' := 6) (a0 := (6, .inl (fun _ => 0))) hx hb (hts _ bw_93) rfl hK hP hD hS hA (fun cA => rfl) (nI_pos (by omega)) (nI_clamp (by omega)) (by show 6 * 4 ≤ 536870912; omega) (by show 7 + 1 ≤ 11; omega) (by show 102 + 6 ≤ 718; omega) dX4_init_63 (fun q63 cA63 H hK2 hP hD hS => ?_)
  have hcA63 : cA63 = cI := kc_int hK2 3 hK 0
  rw [hcA63] at hP hD
  have hP : va_P D vcl ([(h0, .inr (4, [.int 0, .int 0, .int 0, .ref q7, .ref q15, .ref q23, .ref q31, .ref q39, .ref q47, .ref q55, .null, .null, .int 0, .null, .null])), (q7, .inl (cI, 36, .inl (fun _ => 0))), (q15, .inl (cI, 36, .inl (fun _ => 0))), (q23, .inl (cI, 6, .inl (fun _ => 0))), (q31, .inl (cI, 6, .inl (fun _ => 0))), (q39, .inl (cI, 6, .inl (fun _ => 0))), (q47, .inl (cI, 6, .inl (fun _ => 0))), (q55, .inl (cI, 6, .inl (fun _ => 0))), (q63, .inl (cI, 6, .inl (fun _ => 0)))]) H := hP
  have hD : va_D A ([(h0, .inr (4, [.int 0, .int 0, .int 0, .ref q7, .ref q15, .ref q23, .ref q31, .ref q39, .ref q47, .ref q55, .null, .null, .int 0, .null, .null])), (q7, .inl (cI, 36, .inl (fun _ => 0))), (q15, .inl (cI, 36, .inl (fun _ => 0))), (q23, .inl (cI, 6, .inl (fun _ => 0))), (q31, .inl (cI, 6, .inl (fun _ => 0))), (q39, .inl (cI, 6, .inl (fun _ => 0))), (q47, .inl (cI, 6, .inl (fun _ => 0))), (q55, .inl (cI, 6, .inl (fun _ => 0))), (q63, .inl (cI, 6, .inl (fun _ => 0)))]) := hD
  refine W.widen (k := 8) (n := 108) (by omega) (by omega) ?_
  refine va_put (D := D) (ci := 4) (v := .ref q63) (ty := tyX4 10) (C := RX4) (T := TX4) (N := 15) hx hb hts in4 tyX4 tyX4_ok nmX4 hown hK hP hD hS 0 rfl rfl 10 (by decide) (hts _ bw_472) (fun _ h9 => h9) rfl (tyX4_ok 10 (by decide)) rfl rfl (Nat.le_of_ble_eq_true rfl) dX4_init_65 (fun H locs hP hD hS => ?_)
  have hP : va_P D vcl ([(h0, .inr (4, [.int 0, .int 0, .int 0, .ref q7, .ref q15, .ref q23, .ref q31, .ref q39, .ref q47, .ref q55, .ref q63, .null, .int 0, .null, .null])), (q7, .inl (cI, 36, .inl (fun _ => 0))), (q15, .inl (cI, 36, .inl (fun _ => 0))), (q23, .inl (cI, 6, .inl (fun _ => 0))), (q31, .inl (cI, 6, .inl (fun _ => 0))), (q39, .inl (cI, 6, .inl (fun _ => 0))), (q47, .inl (cI, 6, .inl (fun _ => 0))), (q55, .inl (cI, 6, .inl (fun _ => 0))), (q63, .inl (cI, 6, .inl (fun _ => 0)))]) H := hP
  have hD : va_D A ([(h0, .inr (4, [.int 0, .int 0, .int 0, .ref q7, .ref q15, .ref q23, .ref q31, .ref q39, .ref q47, .ref q55, .ref q63, .null, .int 0, .null, .null])), (q7, .inl (cI, 36, .inl (fun _ => 0))), (q15, .inl (cI, 36, .inl (fun _ => 0))), (q23, .inl (cI, 6, .inl (fun _ => 0))), (q31, .inl (cI, 6, .inl (fun _ => 0))), (q39, .inl (cI, 6, .inl (fun _ => 0))), (q47, .inl (cI, 6, .inl (fun _ => 0))), (q55, .inl (cI, 6, .inl (fun _ => 0))), (q63, .inl (cI, 6, .inl (fun _ => 0)))]) := hD
  refine lv_aload_n hx hb dX4_init_68 rfl (lv_at hl 0 rfl) ?_
  refine lv_bipush (v := nI 6) hx hb dX4_init_69 (by decide) ?_
  refine va_newa (D := D) (atype := .int) (ty := .int) (N' := 6) (a0 := (6, .inl (fun _ => 0))) hx hb (hts _ bw_93) rfl hK hP hD hS hA (fun cA => rfl) (nI_pos (by omega)) (nI_clamp (by omega)) (by show 6 * 4 ≤ 536870912; omega) (by show 8 + 1 ≤ 11; omega) (by show 108 + 6 ≤ 718; omega) dX4_init_71 (fun q71 cA71 H hK2 hP hD hS => ?_)
  have hcA71 : cA71 = cI := kc_int hK2 3 hK 0
  rw [hcA71] at hP hD
  have hP : va_P D vcl ([(h0, .inr (4, [.int 0, .int 0, .int 0, .ref q7, .ref q15, .ref q23, .ref q31, .ref q39, .ref q47, .ref q55, .ref q63, .null, .int 0, .null, .null])), (q7, .inl (cI, 36, .inl (fun _ => 0))), (q15, .inl (cI, 36, .inl (fun _ => 0))), (q23, .inl (cI, 6, .inl (fun _ => 0))), (q31, .inl (cI, 6, .inl (fun _ => 0))), (q39, .inl (cI, 6, .inl (fun _ => 0))), (q47, .inl (cI, 6, .inl (fun _ => 0))), (q55, .inl (cI, 6, .inl (fun _ => 0))), (q63, .inl (cI, 6, .inl (fun _ => 0))), (q71, .inl (cI, 6, .inl (fun _ => 0)))]) H := hP
  have hD : va_D A ([(h0, .inr (4, [.int 0, .int 0, .int 0, .ref q7, .ref q15, .ref q23, .ref q31, .ref q39, .ref q47, .ref q55, .ref q63, .null, .int 0, .null, .null])), (q7, .inl (cI, 36, .inl (fun _ => 0))), (q15, .inl (cI, 36, .inl (fun _ => 0))), (q23, .inl (cI, 6, .inl (fun _ => 0))), (q31, .inl (cI, 6, .inl (fun _ => 0))), (q39, .inl (cI, 6, .inl (fun _ => 0))), (q47, .inl (cI, 6, .inl (fun _ => 0))), (q55, .inl (cI, 6, .inl (fun _ => 0))), (q63, .inl (cI, 6, .inl (fun _ => 0))), (q71, .inl (cI, 6, .inl (fun _ => 0)))]) := hD
  refine W.widen (k := 9) (n := 114) (by omega) (by omega) ?_
  refine va_put (D := D) (ci := 4) (v := .ref q71) (ty := tyX4 11) (C := RX4) (T := TX4) (N := 15) hx hb hts in4 tyX4 tyX4_ok nmX4 hown hK hP hD hS 0 rfl rfl 11 (by decide) (hts _ bw_473) (fun _ h9 => h9) rfl (tyX4_ok 11 (by decide)) rfl rfl (Nat.le_of_ble_eq_true rfl) dX4_init_73 (fun H locs hP hD hS => ?_)
  have hP : va_P D vcl ([(h0, .inr (4, [.int 0, .int 0, .int 0, .ref q7, .ref q15, .ref q23, .ref q31, .ref q39, .ref q47, .ref q55, .ref q63, .ref q71, .int 0, .null, .null])), (q7, .inl (cI, 36, .inl (fun _ => 0))), (q15, .inl (cI, 36, .inl (fun _ => 0))), (q23, .inl (cI, 6, .inl (fun _ => 0))), (q31, .inl (cI, 6, .inl (fun _ => 0))), (q39, .inl (cI, 6, .inl (fun _ => 0))), (q47, .inl (cI, 6, .inl (fun _ => 0))), (q55, .inl (cI, 6, .inl (fun _ => 0))), (q63, .inl (cI, 6, .inl (fun _ => 0))), (q71, .inl (cI, 6, .inl (fun _ => 0)))]) H := hP
  have hD : va_D A ([(h0, .inr (4, [.int 0, .int 0, .int 0, .ref q7, .ref q15, .ref q23, .ref q31, .ref q39, .ref q47, .ref q55, .ref q63, .ref q71, .int 0, .null, .null])), (q7, .inl (cI, 36, .inl (fun _ => 0))), (q15, .inl (cI, 36, .inl (fun _ => 0))), (q23, .inl (cI, 6, .inl (fun _ => 0))), (q31, .inl (cI, 6, .inl (fun _ => 0))), (q39, .inl (cI, 6, .inl (fun _ => 0))), (q47, .inl (cI, 6, .inl (fun _ => 0))), (q55, .inl (cI, 6, .inl (fun _ => 0))), (q63, .inl (cI, 6, .inl (fun _ => 0))), (q71, .inl (cI, 6, .inl (fun _ => 0)))]) := hD
  refine lv_aload_n hx hb dX4_init_76 rfl (lv_at hl 0 rfl) ?_
  refine lv_sipush (v := nI 600) hx hb dX4_init_77 (by decide) ?_
  refine va_newa (D := D) (atype := .int) (ty := .int) (N' := 600) (a0 := (600, .inl (fun _ => 0))) hx hb (hts _ bw_93) rfl hK hP hD hS hA (fun cA => rfl) (nI_pos (by omega)) (nI_clamp (by omega)) (by show 600 * 4 ≤ 536870912; omega) (by show 9 + 1 ≤ 11; omega) (by show 114 + 600 ≤ 718; omega) dX4_init_80 (fun q80 cA80 H hK2 hP hD hS => ?_)
  have hcA80 : cA80 = cI := kc_int hK2 3 hK 0
  rw [hcA80] at hP hD
  have hP : va_P D vcl ([(h0, .inr (4, [.int 0, .int 0, .int 0, .ref q7, .ref q15, .ref q23, .ref q31, .ref q39, .ref q47, .ref q55, .ref q63, .ref q71, .int 0, .null, .null])), (q7, .inl (cI, 36, .inl (fun _ => 0))), (q15, .inl (cI, 36, .inl (fun _ => 0))), (q23, .inl (cI, 6, .inl (fun _ => 0))), (q31, .inl (cI, 6, .inl (fun _ => 0))), (q39, .inl (cI, 6, .inl (fun _ => 0))), (q47, .inl (cI, 6, .inl (fun _ => 0))), (q55, .inl (cI, 6, .inl (fun _ => 0))), (q63, .inl (cI, 6, .inl (fun _ => 0))), (q71, .inl (cI, 6, .inl (fun _ => 0))), (q80, .inl (cI, 600, .inl (fun _ => 0)))]) H := hP
  have hD : va_D A ([(h0, .inr (4, [.int 0, .int 0, .int 0, .ref q7, .ref q15, .ref q23, .ref q31, .ref q39, .ref q47, .ref q55, .ref q63, .ref q71, .int 0, .null, .null])), (q7, .inl (cI, 36, .inl (fun _ => 0))), (q15, .inl (cI, 36, .inl (fun _ => 0))), (q23, .inl (cI, 6, .inl (fun _ => 0))), (q31, .inl (cI, 6, .inl (fun _ => 0))), (q39, .inl (cI, 6, .inl (fun _ => 0))), (q47, .inl (cI, 6, .inl (fun _ => 0))), (q55, .inl (cI, 6, .inl (fun _ => 0))), (q63, .inl (cI, 6, .inl (fun _ => 0))), (q71, .inl (cI, 6, .inl (fun _ => 0))), (q80, .inl (cI, 600, .inl (fun _ => 0)))]) := hD
  refine W.widen (k := 10) (n := 714) (by omega) (by omega) ?_
  refine va_put (D := D) (ci := 4) (v := .ref q80) (ty := tyX4 13) (C := RX4) (T := TX4) (N := 15) hx hb hts in4 tyX4 tyX4_ok nmX4 hown hK hP hD hS 0 rfl rfl 13 (by decide) (hts _ bw_475) (fun _ h9 => h9) rfl (tyX4_ok 13 (by decide)) rfl rfl (Nat.le_of_ble_eq_true rfl) dX4_init_82 (fun H locs hP hD hS => ?_)
  have hP : va_P D vcl ([(h0, .inr (4, [.int 0, .int 0, .int 0, .ref q7, .ref q15, .ref q23, .ref q31, .ref q39, .ref q47, .ref q55, .ref q63, .ref q71, .int 0, .ref q80, .null])), (q7, .inl (cI, 36, .inl (fun _ => 0))), (q15, .inl (cI, 36, .inl (fun _ => 0))), (q23, .inl (cI, 6, .inl (fun _ => 0))), (q31, .inl (cI, 6, .inl (fun _ => 0))), (q39, .inl (cI, 6, .inl (fun _ => 0))), (q47, .inl (cI, 6, .inl (fun _ => 0))), (q55, .inl (cI, 6, .inl (fun _ => 0))), (q63, .inl (cI, 6, .inl (fun _ => 0))), (q71, .inl (cI, 6, .inl (fun _ => 0))), (q80, .inl (cI, 600, .inl (fun _ => 0)))]) H := hP
  have hD : va_D A ([(h0, .inr (4, [.int 0, .int 0, .int 0, .ref q7, .ref q15, .ref q23, .ref q31, .ref q39, .ref q47, .ref q55, .ref q63, .ref q71, .int 0, .ref q80, .null])), (q7, .inl (cI, 36, .inl (fun _ => 0))), (q15, .inl (cI, 36, .inl (fun _ => 0))), (q23, .inl (cI, 6, .inl (fun _ => 0))), (q31, .inl (cI, 6, .inl (fun _ => 0))), (q39, .inl (cI, 6, .inl (fun _ => 0))), (q47, .inl (cI, 6, .inl (fun _ => 0))), (q55, .inl (cI, 6, .inl (fun _ => 0))), (q63, .inl (cI, 6, .inl (fun _ => 0))), (q71, .inl (cI, 6, .inl (fun _ => 0))), (q80, .inl (cI, 600, .inl (fun _ => 0)))]) := hD
  refine lv_aload_n hx hb dX4_init_85 rfl (lv_at hl 0 rfl) ?_
  refine lv_iconst (v := nI 4) hx hb dX4_init_86 (by decide) ?_
  refine va_newa (D := D) (atype := .int) (ty := .int) (N' := 4) (a0 := (4, .inl (fun _ => 0))) hx hb (hts _ bw_93) rfl hK hP hD hS hA (fun cA => rfl) (nI_pos (by omega)) (nI_clamp (by omega)) (by show 4 * 4 ≤ 536870912; omega) (by show 10 + 1 ≤ 11; omega) (by show 714 + 4 ≤ 718; omega) dX4_init_87 (fun q87 cA87 H hK2 hP hD hS => ?_)
  have hcA87 : cA87 = cI := kc_int hK2 3 hK 0
  rw [hcA87] at hP hD
  have hP : va_P D vcl ([(h0, .inr (4, [.int 0, .int 0, .int 0, .ref q7, .ref q15, .ref q23, .ref q31, .ref q39, .ref q47, .ref q55, .ref q63, .ref q71, .int 0, .ref q80, .null])), (q7, .inl (cI, 36, .inl (fun _ => 0))), (q15, .inl (cI, 36, .inl (fun _ => 0))), (q23, .inl (cI, 6, .inl (fun _ => 0))), (q31, .inl (cI, 6, .inl (fun _ => 0))), (q39, .inl (cI, 6, .inl (fun _ => 0))), (q47, .inl (cI, 6, .inl (fun _ => 0))), (q55, .inl (cI, 6, .inl (fun _ => 0))), (q63, .inl (cI, 6, .inl (fun _ => 0))), (q71, .inl (cI, 6, .inl (fun _ => 0))), (q80, .inl (cI, 600, .inl (fun _ => 0))), (q87, .inl (cI, 4, .inl (fun _ => 0)))]) H := hP
  have hD : va_D A ([(h0, .inr (4, [.int 0, .int 0, .int 0, .ref q7, .ref q15, .ref q23, .ref q31, .ref q39, .ref q47, .ref q55, .ref q63, .ref q71, .int 0, .ref q80, .null])), (q7, .inl (cI, 36, .inl (fun _ => 0))), (q15, .inl (cI, 36, .inl (fun _ => 0))), (q23, .inl (cI, 6, .inl (fun _ => 0))), (q31, .inl (cI, 6, .inl (fun _ => 0))), (q39, .inl (cI, 6, .inl (fun _ => 0))), (q47, .inl (cI, 6, .inl (fun _ => 0))), (q55, .inl (cI, 6, .inl (fun _ => 0))), (q63, .inl (cI, 6, .inl (fun _ => 0))), (q71, .inl (cI, 6, .inl (fun _ => 0))), (q80, .inl (cI, 600, .inl (fun _ => 0))), (q87, .inl (cI, 4, .inl (fun _ => 0)))]) := hD
  refine W.widen (k := 11) (n := 718) (by omega) (by omega) ?_
  refine va_put (D := D) (ci := 4) (v := .ref q87) (ty := tyX4 14) (C := RX4) (T := TX4) (N := 15) hx hb hts in4 tyX4 tyX4_ok nmX4 hown hK hP hD hS 0 rfl rfl 14 (by decide) (hts _ bw_476) (fun _ h9 => h9) rfl (tyX4_ok 14 (by decide)) rfl rfl (Nat.le_of_ble_eq_true rfl) dX4_init_89 (fun H locs hP hD hS => ?_)
  have hP : va_P D vcl ([(h0, .inr (4, [.int 0, .int 0, .int 0, .ref q7, .ref q15, .ref q23, .ref q31, .ref q39, .ref q47, .ref q55, .ref q63, .ref q71, .int 0, .ref q80, .ref q87])), (q7, .inl (cI, 36, .inl (fun _ => 0))), (q15, .inl (cI, 36, .inl (fun _ => 0))), (q23, .inl (cI, 6, .inl (fun _ => 0))), (q31, .inl (cI, 6, .inl (fun _ => 0))), (q39, .inl (cI, 6, .inl (fun _ => 0))), (q47, .inl (cI, 6, .inl (fun _ => 0))), (q55, .inl (cI, 6, .inl (fun _ => 0))), (q63, .inl (cI, 6, .inl (fun _ => 0))), (q71, .inl (cI, 6, .inl (fun _ => 0))), (q80, .inl (cI, 600, .inl (fun _ => 0))), (q87, .inl (cI, 4, .inl (fun _ => 0)))]) H := hP
  have hD : va_D A ([(h0, .inr (4, [.int 0, .int 0, .int 0, .ref q7, .ref q15, .ref q23, .ref q31, .ref q39, .ref q47, .ref q55, .ref q63, .ref q71, .int 0, .ref q80, .ref q87])), (q7, .inl (cI, 36, .inl (fun _ => 0))), (q15, .inl (cI, 36, .inl (fun _ => 0))), (q23, .inl (cI, 6, .inl (fun _ => 0))), (q31, .inl (cI, 6, .inl (fun _ => 0))), (q39, .inl (cI, 6, .inl (fun _ => 0))), (q47, .inl (cI, 6, .inl (fun _ => 0))), (q55, .inl (cI, 6, .inl (fun _ => 0))), (q63, .inl (cI, 6, .inl (fun _ => 0))), (q71, .inl (cI, 6, .inl (fun _ => 0))), (q80, .inl (cI, 600, .inl (fun _ => 0))), (q87, .inl (cI, 4, .inl (fun _ => 0)))]) := hD
  refine lv_aload_n hx hb dX4_init_92 rfl (lv_at hl 0 rfl) ?_
  refine lv_iload_n hx hb dX4_init_93 rfl (lv_at hl 1 rfl) ?_
  refine lv_iconst (v := nI 2) hx hb dX4_init_94 (by decide) ?_
  refine lv_icmp_ge (tgt := 102) hx hb dX4_init_95 (by decide) (fun h95 => ?_) (fun h95 => ?_)
  · refine lv_iload_n hx hb dX4_init_102 rfl (lv_at hl 1 rfl) ?_
    refine lv_bipush (v := nI 6) hx hb dX4_init_103 (by decide) ?_
    refine lv_icmp_le (tgt := 113) hx hb dX4_init_105 (by decide) (fun h105 => ?_) (fun h105 => ?_)
    · refine lv_iload_n hx hb dX4_init_113 rfl (lv_at hl 1 rfl) ?_
      refine nb_ren (y := nI n) (by first | exact clamp_1 hcl h95 | exact clamp_2 hcl h105 | exact clamp_3 hcl h95 h105) ?_
      refine va_put (D := D) (ci := 4) (v := .int (nI n)) (ty := tyX4 1) (C := RX4) (T := TX4) (N := 15) hx hb hts in4 tyX4 tyX4_ok nmX4 hown hK hP hD hS 0 rfl rfl 1 (by decide) (hts _ bw_463) (fun _ h9 => h9) rfl (tyX4_ok 1 (by decide)) rfl rfl (Nat.le_of_ble_eq_true rfl) dX4_init_114 (fun H locs hP hD hS => ?_)
      have hP : va_P D vcl ([(h0, .inr (4, [.int 0, .int (nI n), .int 0, .ref q7, .ref q15, .ref q23, .ref q31, .ref q39, .ref q47, .ref q55, .ref q63, .ref q71, .int 0, .ref q80, .ref q87])), (q7, .inl (cI, 36, .inl (fun _ => 0))), (q15, .inl (cI, 36, .inl (fun _ => 0))), (q23, .inl (cI, 6, .inl (fun _ => 0))), (q31, .inl (cI, 6, .inl (fun _ => 0))), (q39, .inl (cI, 6, .inl (fun _ => 0))), (q47, .inl (cI, 6, .inl (fun _ => 0))), (q55, .inl (cI, 6, .inl (fun _ => 0))), (q63, .inl (cI, 6, .inl (fun _ => 0))), (q71, .inl (cI, 6, .inl (fun _ => 0))), (q80, .inl (cI, 600, .inl (fun _ => 0))), (q87, .inl (cI, 4, .inl (fun _ => 0)))]) H := hP
      have hD : va_D A ([(h0, .inr (4, [.int 0, .int (nI n), .int 0, .ref q7, .ref q15, .ref q23, .ref q31, .ref q39, .ref q47, .ref q55, .ref q63, .ref q71, .int 0, .ref q80, .ref q87])), (q7, .inl (cI, 36, .inl (fun _ => 0))), (q15, .inl (cI, 36, .inl (fun _ => 0))), (q23, .inl (cI, 6, .inl (fun _ => 0))), (q31, .inl (cI, 6, .inl (fun _ => 0))), (q39, .inl (cI, 6, .inl (fun _ => 0))), (q47, .inl (cI, 6, .inl (fun _ => 0))), (q55, .inl (cI, 6, .inl (fun _ => 0))), (q63, .inl (cI, 6, .inl (fun _ => 0))), (q71, .inl (cI, 6, .inl (fun _ => 0))), (q80, .inl (cI, 600, .inl (fun _ => 0))), (q87, .inl (cI, 4, .inl (fun _ => 0)))]) := hD
      refine lv_aload_n hx hb dX4_init_117 rfl (lv_at hl 0 rfl) ?_
      refine lv_iload_n hx hb dX4_init_118 rfl (lv_at hl 2 rfl) ?_
      refine lv_if_eq (tgt := 127) hx hb dX4_init_119 (by decide) (fun h119 => ?_) (fun h119 => ?_)
      · refine lv_iconst (v := nI 1) hx hb dX4_init_127 (by decide) ?_
        refine nb_ren (y := stp ph) (by first | exact phst_1 hph h119 | exact phst_2 hph h119) ?_
        refine va_put (D := D) (ci := 4) (v := .int (stp ph)) (ty := tyX4 2) (C := RX4) (T := TX4) (N := 15) hx hb hts in4 tyX4 tyX4_ok nmX4 hown hK hP hD hS 0 rfl rfl 2 (by decide) (hts _ bw_464) (fun _ h9 => h9) rfl (tyX4_ok 2 (by decide)) rfl rfl (Nat.le_of_ble_eq_true rfl) dX4_init_128 (fun H locs hP hD hS => ?_)
        have hP : va_P D vcl ([(h0, .inr (4, [.int 0, .int (nI n), .int (stp ph), .ref q7, .ref q15, .ref q23, .ref q31, .ref q39, .ref q47, .ref q55, .ref q63, .ref q71, .int 0, .ref q80, .ref q87])), (q7, .inl (cI, 36, .inl (fun _ => 0))), (q15, .inl (cI, 36, .inl (fun _ => 0))), (q23, .inl (cI, 6, .inl (fun _ => 0))), (q31, .inl (cI, 6, .inl (fun _ => 0))), (q39, .inl (cI, 6, .inl (fun _ => 0))), (q47, .inl (cI, 6, .inl (fun _ => 0))), (q55, .inl (cI, 6, .inl (fun _ => 0))), (q63, .inl (cI, 6, .inl (fun _ => 0))), (q71, .inl (cI, 6, .inl (fun _ => 0))), (q80, .inl (cI, 600, .inl (fun _ => 0))), (q87, .inl (cI, 4, .inl (fun _ => 0)))]) H := hP
        have hD : va_D A ([(h0, .inr (4, [.int 0, .int (nI n), .int (stp ph), .ref q7, .ref q15, .ref q23, .ref q31, .ref q39, .ref q47, .ref q55, .ref q63, .ref q71, .int 0, .ref q80, .ref q87])), (q7, .inl (cI, 36, .inl (fun _ => 0))), (q15, .inl (cI, 36, .inl (fun _ => 0))), (q23, .inl (cI, 6, .inl (fun _ => 0))), (q31, .inl (cI, 6, .inl (fun _ => 0))), (q39, .inl (cI, 6, .inl (fun _ => 0))), (q47, .inl (cI, 6, .inl (fun _ => 0))), (q55, .inl (cI, 6, .inl (fun _ => 0))), (q63, .inl (cI, 6, .inl (fun _ => 0))), (q71, .inl (cI, 6, .inl (fun _ => 0))), (q80, .inl (cI, 600, .inl (fun _ => 0))), (q87, .inl (cI, 4, .inl (fun _ => 0)))]) := hD
        refine lv_aload_n hx hb dX4_init_131 rfl (lv_at hl 0 rfl) ?_
        obtain ⟨ad, had⟩ : ∃ f : Nat → Nat, f = fun r => ([h0, q7, q15, q23, q31, q39, q47, q55, q63, q71, q80, q87] : List Nat).getD r 0 := ⟨_, rfl⟩
        have wb : WB D (ty3 cI cC cD) EN0 ad 12 A s (mE ad cI 0 n (stp ph) 0 (fun _ _ => 0)) H locs := ⟨hK, by rw [had]; exact hP, by rw [had]; exact hD, hS, hA, trivial⟩
        refine rb_callV ⟨hx, hb, hml, hown, hts⟩ wb EN0_ok (m_clean l D cI cC cD ad 0 n (stp ph) 0 (fun _ _ => 0)) (bw5 bw_458 bw_460 bw_21 bw_37 bw_461) (rb_recv wb 0 (by decide) rfl rfl) hdX4_clean rfl ⟨rfl, rfl⟩ ⟨by decide, by decide⟩ hl.1 (Nat.le_of_ble_eq_true rfl) ⟨by decide, by decide⟩ (rest := []) (st1 := []) (by rw [had]; rfl) rfl dX4_init_132 (fun H locs wb => ?_)
        exact W.vret hx hb hr (fun t ht hW => ⟨⟨ad, rfl, (by rw [had]; rfl), by rw [ht]; exact wb.2.1, wb.2.2.1⟩, wb.2.2.2.1.F ht⟩) wb.2.2.2.1.2.2 dX4_init_135
      · refine lv_bipush (v := nI 64) hx hb dX4_init_122 (by decide) ?_
        refine lv_goto (tgt := 128) hx hb dX4_init_124 (by decide) ?_
        refine nb_ren (y := stp ph) (by first | exact phst_1 hph h119 | exact phst_2 hph h119) ?_
        refine va_put (D := D) (ci := 4) (v := .int (stp ph)) (ty := tyX4 2) (C := RX4) (T := TX4) (N := 15) hx hb hts in4 tyX4 tyX4_ok nmX4 hown hK hP hD hS 0 rfl rfl 2 (by decide) (hts _ bw_464) (fun _ h9 => h9) rfl (tyX4_ok 2 (by decide)) rfl rfl (Nat.le_of_ble_eq_true rfl) dX4_init_128 (fun H locs hP hD hS => ?_)
        have hP : va_P D vcl ([(h0, .inr (4, [.int 0, .int (nI n), .int (stp ph), .ref q7, .ref q15, .ref q23, .ref q31, .ref q39, .ref q47, .ref q55, .ref q63, .ref q71, .int 0, .ref q80, .ref q87])), (q7, .inl (cI, 36, .inl (fun _ => 0))), (q15, .inl (cI, 36, .inl (fun _ => 0))), (q23, .inl (cI, 6, .inl (fun _ => 0))), (q31, .inl (cI, 6, .inl (fun _ => 0))), (q39, .inl (cI, 6, .inl (fun _ => 0))), (q47, .inl (cI, 6, .inl (fun _ => 0))), (q55, .inl (cI, 6, .inl (fun _ => 0))), (q63, .inl (cI, 6, .inl (fun _ => 0))), (q71, .inl (cI, 6, .inl (fun _ => 0))), (q80, .inl (cI, 600, .inl (fun _ => 0))), (q87, .inl (cI, 4, .inl (fun _ => 0)))]) H := hP
        have hD : va_D A ([(h0, .inr (4, [.int 0, .int (nI n), .int (stp ph), .ref q7, .ref q15, .ref q23, .ref q31, .ref q39, .ref q47, .ref q55, .ref q63, .ref q71, .int 0, .ref q80, .ref q87])), (q7, .inl (cI, 36, .inl (fun _ => 0))), (q15, .inl (cI, 36, .inl (fun _ => 0))), (q23, .inl (cI, 6, .inl (fun _ => 0))), (q31, .inl (cI, 6, .inl (fun _ => 0))), (q39, .inl (cI, 6, .inl (fun _ => 0))), (q47, .inl (cI, 6, .inl (fun _ => 0))), (q55, .inl (cI, 6, .inl (fun _ => 0))), (q63, .inl (cI, 6, .inl (fun _ => 0))), (q71, .inl (cI, 6, .inl (fun _ => 0))), (q80, .inl (cI, 600, .inl (fun _ => 0))), (q87, .inl (cI, 4, .inl (fun _ => 0)))]) := hD
        refine lv_aload_n hx hb dX4_init_131 rfl (lv_at hl 0 rfl) ?_
        obtain ⟨ad, had⟩ : ∃ f : Nat → Nat, f = fun r => ([h0, q7, q15, q23, q31, q39, q47, q55, q63, q71, q80, q87] : List Nat).getD r 0 := ⟨_, rfl⟩
        have wb : WB D (ty3 cI cC cD) EN0 ad 12 A s (mE ad cI 0 n (stp ph) 0 (fun _ _ => 0)) H locs := ⟨hK, by rw [had]; exact hP, by rw [had]; exact hD, hS, hA, trivial⟩
        refine rb_callV ⟨hx, hb, hml, hown, hts⟩ wb EN0_ok (m_clean l D cI cC cD ad 0 n (stp ph) 0 (fun _ _ => 0)) (bw5 bw_458 bw_460 bw_21 bw_37 bw_461) (rb_recv wb 0 (by decide) rfl rfl) hdX4_clean rfl ⟨rfl, rfl⟩ ⟨by decide, by decide⟩ hl.1 (Nat.le_of_ble_eq_true rfl) ⟨by decide, by decide⟩ (rest := []) (st1 := []) (by rw [had]; rfl) rfl dX4_init_132 (fun H locs wb => ?_)
        exact W.vret hx hb hr (fun t ht hW => ⟨⟨ad, rfl, (by rw [had]; rfl), by rw [ht]; exact wb.2.1, wb.2.2.1⟩, wb.2.2.2.1.F ht⟩) wb.2.2.2.1.2.2 dX4_init_135
    · refine lv_bipush (v := nI 6) hx hb dX4_init_108 (by decide) ?_
      refine lv_goto (tgt := 114) hx hb dX4_init_110 (by decide) ?_
      refine nb_ren (y := nI n) (by first | exact clamp_1 hcl h95 | exact clamp_2 hcl h105 | exact clamp_3 hcl h95 h105) ?_
      refine va_put (D := D) (ci := 4) (v := .int (nI n)) (ty := tyX4 1) (C := RX4) (T := TX4) (N := 15) hx hb hts in4 tyX4 tyX4_ok nmX4 hown hK hP hD hS 0 rfl rfl 1 (by decide) (hts _ bw_463) (fun _ h9 => h9) rfl (tyX4_ok 1 (by decide)) rfl rfl (Nat.le_of_ble_eq_true rfl) dX4_init_114 (fun H locs hP hD hS => ?_)
      have hP : va_P D vcl ([(h0, .inr (4, [.int 0, .int (nI n), .int 0, .ref q7, .ref q15, .ref q23, .ref q31, .ref q39, .ref q47, .ref q55, .ref q63, .ref q71, .int 0, .ref q80, .ref q87])), (q7, .inl (cI, 36, .inl (fun _ => 0))), (q15, .inl (cI, 36, .inl (fun _ => 0))), (q23, .inl (cI, 6, .inl (fun _ => 0))), (q31, .inl (cI, 6, .inl (fun _ => 0))), (q39, .inl (cI, 6, .inl (fun _ => 0))), (q47, .inl (cI, 6, .inl (fun _ => 0))), (q55, .inl (cI, 6, .inl (fun _ => 0))), (q63, .inl (cI, 6, .inl (fun _ => 0))), (q71, .inl (cI, 6, .inl (fun _ => 0))), (q80, .inl (cI, 600, .inl (fun _ => 0))), (q87, .inl (cI, 4, .inl (fun _ => 0)))]) H := hP
      have hD : va_D A ([(h0, .inr (4, [.int 0, .int (nI n), .int 0, .ref q7, .ref q15, .ref q23, .ref q31, .ref q39, .ref q47, .ref q55, .ref q63, .ref q71, .int 0, .ref q80, .ref q87])), (q7, .inl (cI, 36, .inl (fun _ => 0))), (q15, .inl (cI, 36, .inl (fun _ => 0))), (q23, .inl (cI, 6, .inl (fun _ => 0))), (q31, .inl (cI, 6, .inl (fun _ => 0))), (q39, .inl (cI, 6, .inl (fun _ => 0))), (q47, .inl (cI, 6, .inl (fun _ => 0))), (q55, .inl (cI, 6, .inl (fun _ => 0))), (q63, .inl (cI, 6, .inl (fun _ => 0))), (q71, .inl (cI, 6, .inl (fun _ => 0))), (q80, .inl (cI, 600, .inl (fun _ => 0))), (q87, .inl (cI, 4, .inl (fun _ => 0)))]) := hD
      refine lv_aload_n hx hb dX4_init_117 rfl (lv_at hl 0 rfl) ?_
      refine lv_iload_n hx hb dX4_init_118 rfl (lv_at hl 2 rfl) ?_
      refine lv_if_eq (tgt := 127) hx hb dX4_init_119 (by decide) (fun h119 => ?_) (fun h119 => ?_)
      · refine lv_iconst (v := nI 1) hx hb dX4_init_127 (by decide) ?_
        refine nb_ren (y := stp ph) (by first | exact phst_1 hph h119 | exact phst_2 hph h119) ?_
        refine va_put (D := D) (ci := 4) (v := .int (stp ph)) (ty := tyX4 2) (C := RX4) (T := TX4) (N := 15) hx hb hts in4 tyX4 tyX4_ok nmX4 hown hK hP hD hS 0 rfl rfl 2 (by decide) (hts _ bw_464) (fun _ h9 => h9) rfl (tyX4_ok 2 (by decide)) rfl rfl (Nat.le_of_ble_eq_true rfl) dX4_init_128 (fun H locs hP hD hS => ?_)
        have hP : va_P D vcl ([(h0, .inr (4, [.int 0, .int (nI n), .int (stp ph), .ref q7, .ref q15, .ref q23, .ref q31, .ref q39, .ref q47, .ref q55, .ref q63, .ref q71, .int 0, .ref q80, .ref q87])), (q7, .inl (cI, 36, .inl (fun _ => 0))), (q15, .inl (cI, 36, .inl (fun _ => 0))), (q23, .inl (cI, 6, .inl (fun _ => 0))), (q31, .inl (cI, 6, .inl (fun _ => 0))), (q39, .inl (cI, 6, .inl (fun _ => 0))), (q47, .inl (cI, 6, .inl (fun _ => 0))), (q55, .inl (cI, 6, .inl (fun _ => 0))), (q63, .inl (cI, 6, .inl (fun _ => 0))), (q71, .inl (cI, 6, .inl (fun _ => 0))), (q80, .inl (cI, 600, .inl (fun _ => 0))), (q87, .inl (cI, 4, .inl (fun _ => 0)))]) H := hP
        have hD : va_D A ([(h0, .inr (4, [.int 0, .int (nI n), .int (stp ph), .ref q7, .ref q15, .ref q23, .ref q31, .ref q39, .ref q47, .ref q55, .ref q63, .ref q71, .int 0, .ref q80, .ref q87])), (q7, .inl (cI, 36, .inl (fun _ => 0))), (q15, .inl (cI, 36, .inl (fun _ => 0))), (q23, .inl (cI, 6, .inl (fun _ => 0))), (q31, .inl (cI, 6, .inl (fun _ => 0))), (q39, .inl (cI, 6, .inl (fun _ => 0))), (q47, .inl (cI, 6, .inl (fun _ => 0))), (q55, .inl (cI, 6, .inl (fun _ => 0))), (q63, .inl (cI, 6, .inl (fun _ => 0))), (q71, .inl (cI, 6, .inl (fun _ => 0))), (q80, .inl (cI, 600, .inl (fun _ => 0))), (q87, .inl (cI, 4, .inl (fun _ => 0)))]) := hD
        refine lv_aload_n hx hb dX4_init_131 rfl (lv_at hl 0 rfl) ?_
        obtain ⟨ad, had⟩ : ∃ f : Nat → Nat, f = fun r => ([h0, q7, q15, q23, q31, q39, q47, q55, q63, q71, q80, q87] : List Nat).getD r 0 := ⟨_, rfl⟩
        have wb : WB D (ty3 cI cC cD) EN0 ad 12 A s (mE ad cI 0 n (stp ph) 0 (fun _ _ => 0)) H locs := ⟨hK, by rw [had]; exact hP, by rw [had]; exact hD, hS, hA, trivial⟩
        refine rb_callV ⟨hx, hb, hml, hown, hts⟩ wb EN0_ok (m_clean l D cI cC cD ad 0 n (stp ph) 0 (fun _ _ => 0)) (bw5 bw_458 bw_460 bw_21 bw_37 bw_461) (rb_recv wb 0 (by decide) rfl rfl) hdX4_clean rfl ⟨rfl, rfl⟩ ⟨by decide, by decide⟩ hl.1 (Nat.le_of_ble_eq_true rfl) ⟨by decide, by decide⟩ (rest := []) (st1 := []) (by rw [had]; rfl) rfl dX4_init_132 (fun H locs wb => ?_)
        exact W.vret hx hb hr (fun t ht hW => ⟨⟨ad, rfl, (by rw [had]; rfl), by rw [ht]; exact wb.2.1, wb.2.2.1⟩, wb.2.2.2.1.F ht⟩) wb.2.2.2.1.2.2 dX4_init_135
      · refine lv_bipush (v := nI 64) hx hb dX4_init_122 (by decide) ?_
        refine lv_goto (tgt := 128) hx hb dX4_init_124 (by decide) ?_
        refine nb_ren (y := stp ph) (by first | exact phst_1 hph h119 | exact phst_2 hph h119) ?_
        refine va_put (D := D) (ci := 4) (v := .int (stp ph)) (ty := tyX4 2) (C := RX4) (T := TX4) (N := 15) hx hb hts in4 tyX4 tyX4_ok nmX4 hown hK hP hD hS 0 rfl rfl 2 (by decide) (hts _ bw_464) (fun _ h9 => h9) rfl (tyX4_ok 2 (by decide)) rfl rfl (Nat.le_of_ble_eq_true rfl) dX4_init_128 (fun H locs hP hD hS => ?_)
        have hP : va_P D vcl ([(h0, .inr (4, [.int 0, .int (nI n), .int (stp ph), .ref q7, .ref q15, .ref q23, .ref q31, .ref q39, .ref q47, .ref q55, .ref q63, .ref q71, .int 0, .ref q80, .ref q87])), (q7, .inl (cI, 36, .inl (fun _ => 0))), (q15, .inl (cI, 36, .inl (fun _ => 0))), (q23, .inl (cI, 6, .inl (fun _ => 0))), (q31, .inl (cI, 6, .inl (fun _ => 0))), (q39, .inl (cI, 6, .inl (fun _ => 0))), (q47, .inl (cI, 6, .inl (fun _ => 0))), (q55, .inl (cI, 6, .inl (fun _ => 0))), (q63, .inl (cI, 6, .inl (fun _ => 0))), (q71, .inl (cI, 6, .inl (fun _ => 0))), (q80, .inl (cI, 600, .inl (fun _ => 0))), (q87, .inl (cI, 4, .inl (fun _ => 0)))]) H := hP
        have hD : va_D A ([(h0, .inr (4, [.int 0, .int (nI n), .int (stp ph), .ref q7, .ref q15, .ref q23, .ref q31, .ref q39, .ref q47, .ref q55, .ref q63, .ref q71, .int 0, .ref q80, .ref q87])), (q7, .inl (cI, 36, .inl (fun _ => 0))), (q15, .inl (cI, 36, .inl (fun _ => 0))), (q23, .inl (cI, 6, .inl (fun _ => 0))), (q31, .inl (cI, 6, .inl (fun _ => 0))), (q39, .inl (cI, 6, .inl (fun _ => 0))), (q47, .inl (cI, 6, .inl (fun _ => 0))), (q55, .inl (cI, 6, .inl (fun _ => 0))), (q63, .inl (cI, 6, .inl (fun _ => 0))), (q71, .inl (cI, 6, .inl (fun _ => 0))), (q80, .inl (cI, 600, .inl (fun _ => 0))), (q87, .inl (cI, 4, .inl (fun _ => 0)))]) := hD
        refine lv_aload_n hx hb dX4_init_131 rfl (lv_at hl 0 rfl) ?_
        obtain ⟨ad, had⟩ : ∃ f : Nat → Nat, f = fun r => ([h0, q7, q15, q23, q31, q39, q47, q55, q63, q71, q80, q87] : List Nat).getD r 0 := ⟨_, rfl⟩
        have wb : WB D (ty3 cI cC cD) EN0 ad 12 A s (mE ad cI 0 n (stp ph) 0 (fun _ _ => 0)) H locs := ⟨hK, by rw [had]; exact hP, by rw [had]; exact hD, hS, hA, trivial⟩
        refine rb_callV ⟨hx, hb, hml, hown, hts⟩ wb EN0_ok (m_clean l D cI cC cD ad 0 n (stp ph) 0 (fun _ _ => 0)) (bw5 bw_458 bw_460 bw_21 bw_37 bw_461) (rb_recv wb 0 (by decide) rfl rfl) hdX4_clean rfl ⟨rfl, rfl⟩ ⟨by decide, by decide⟩ hl.1 (Nat.le_of_ble_eq_true rfl) ⟨by decide, by decide⟩ (rest := []) (st1 := []) (by rw [had]; rfl) rfl dX4_init_132 (fun H locs wb => ?_)
        exact W.vret hx hb hr (fun t ht hW => ⟨⟨ad, rfl, (by rw [had]; rfl), by rw [ht]; exact wb.2.1, wb.2.2.1⟩, wb.2.2.2.1.F ht⟩) wb.2.2.2.1.2.2 dX4_init_135
  · refine lv_iconst (v := nI 2) hx hb dX4_init_98 (by decide) ?_
    refine lv_goto (tgt := 114) hx hb dX4_init_99 (by decide) ?_
    refine nb_ren (y := nI n) (by first | exact clamp_1 hcl h95 | exact clamp_2 hcl h105 | exact clamp_3 hcl h95 h105) ?_
    refine va_put (D := D) (ci := 4) (v := .int (nI n)) (ty := tyX4 1) (C := RX4) (T := TX4) (N := 15) hx hb hts in4 tyX4 tyX4_ok nmX4 hown hK hP hD hS 0 rfl rfl 1 (by decide) (hts _ bw_463) (fun _ h9 => h9) rfl (tyX4_ok 1 (by decide)) rfl rfl (Nat.le_of_ble_eq_true rfl) dX4_init_114 (fun H locs hP hD hS => ?_)
    have hP : va_P D vcl ([(h0, .inr (4, [.int 0, .int (nI n), .int 0, .ref q7, .ref q15, .ref q23, .ref q31, .ref q39, .ref q47, .ref q55, .ref q63, .ref q71, .int 0, .ref q80, .ref q87])), (q7, .inl (cI, 36, .inl (fun _ => 0))), (q15, .inl (cI, 36, .inl (fun _ => 0))), (q23, .inl (cI, 6, .inl (fun _ => 0))), (q31, .inl (cI, 6, .inl (fun _ => 0))), (q39, .inl (cI, 6, .inl (fun _ => 0))), (q47, .inl (cI, 6, .inl (fun _ => 0))), (q55, .inl (cI, 6, .inl (fun _ => 0))), (q63, .inl (cI, 6, .inl (fun _ => 0))), (q71, .inl (cI, 6, .inl (fun _ => 0))), (q80, .inl (cI, 600, .inl (fun _ => 0))), (q87, .inl (cI, 4, .inl (fun _ => 0)))]) H := hP
    have hD : va_D A ([(h0, .inr (4, [.int 0, .int (nI n), .int 0, .ref q7, .ref q15, .ref q23, .ref q31, .ref q39, .ref q47, .ref q55, .ref q63, .ref q71, .int 0, .ref q80, .ref q87])), (q7, .inl (cI, 36, .inl (fun _ => 0))), (q15, .inl (cI, 36, .inl (fun _ => 0))), (q23, .inl (cI, 6, .inl (fun _ => 0))), (q31, .inl (cI, 6, .inl (fun _ => 0))), (q39, .inl (cI, 6, .inl (fun _ => 0))), (q47, .inl (cI, 6, .inl (fun _ => 0))), (q55, .inl (cI, 6, .inl (fun _ => 0))), (q63, .inl (cI, 6, .inl (fun _ => 0))), (q71, .inl (cI, 6, .inl (fun _ => 0))), (q80, .inl (cI, 600, .inl (fun _ => 0))), (q87, .inl (cI, 4, .inl (fun _ => 0)))]) := hD
    refine lv_aload_n hx hb dX4_init_117 rfl (lv_at hl 0 rfl) ?_
    refine lv_iload_n hx hb dX4_init_118 rfl (lv_at hl 2 rfl) ?_
    refine lv_if_eq (tgt := 127) hx hb dX4_init_119 (by decide) (fun h119 => ?_) (fun h119 => ?_)
    · refine lv_iconst (v := nI 1) hx hb dX4_init_127 (by decide) ?_
      refine nb_ren (y := stp ph) (by first | exact phst_1 hph h119 | exact phst_2 hph h119) ?_
      refine va_put (D := D) (ci := 4) (v := .int (stp ph)) (ty := tyX4 2) (C := RX4) (T := TX4) (N := 15) hx hb hts in4 tyX4 tyX4_ok nmX4 hown hK hP hD hS 0 rfl rfl 2 (by decide) (hts _ bw_464) (fun _ h9 => h9) rfl (tyX4_ok 2 (by decide)) rfl rfl (Nat.le_of_ble_eq_true rfl) dX4_init_128 (fun H locs hP hD hS => ?_)
      have hP : va_P D vcl ([(h0, .inr (4, [.int 0, .int (nI n), .int (stp ph), .ref q7, .ref q15, .ref q23, .ref q31, .ref q39, .ref q47, .ref q55, .ref q63, .ref q71, .int 0, .ref q80, .ref q87])), (q7, .inl (cI, 36, .inl (fun _ => 0))), (q15, .inl (cI, 36, .inl (fun _ => 0))), (q23, .inl (cI, 6, .inl (fun _ => 0))), (q31, .inl (cI, 6, .inl (fun _ => 0))), (q39, .inl (cI, 6, .inl (fun _ => 0))), (q47, .inl (cI, 6, .inl (fun _ => 0))), (q55, .inl (cI, 6, .inl (fun _ => 0))), (q63, .inl (cI, 6, .inl (fun _ => 0))), (q71, .inl (cI, 6, .inl (fun _ => 0))), (q80, .inl (cI, 600, .inl (fun _ => 0))), (q87, .inl (cI, 4, .inl (fun _ => 0)))]) H := hP
      have hD : va_D A ([(h0, .inr (4, [.int 0, .int (nI n), .int (stp ph), .ref q7, .ref q15, .ref q23, .ref q31, .ref q39, .ref q47, .ref q55, .ref q63, .ref q71, .int 0, .ref q80, .ref q87])), (q7, .inl (cI, 36, .inl (fun _ => 0))), (q15, .inl (cI, 36, .inl (fun _ => 0))), (q23, .inl (cI, 6, .inl (fun _ => 0))), (q31, .inl (cI, 6, .inl (fun _ => 0))), (q39, .inl (cI, 6, .inl (fun _ => 0))), (q47, .inl (cI, 6, .inl (fun _ => 0))), (q55, .inl (cI, 6, .inl (fun _ => 0))), (q63, .inl (cI, 6, .inl (fun _ => 0))), (q71, .inl (cI, 6, .inl (fun _ => 0))), (q80, .inl (cI, 600, .inl (fun _ => 0))), (q87, .inl (cI, 4, .inl (fun _ => 0)))]) := hD
      refine lv_aload_n hx hb dX4_init_131 rfl (lv_at hl 0 rfl) ?_
      obtain ⟨ad, had⟩ : ∃ f : Nat → Nat, f = fun r => ([h0, q7, q15, q23, q31, q39, q47, q55, q63, q71, q80, q87] : List Nat).getD r 0 := ⟨_, rfl⟩
      have wb : WB D (ty3 cI cC cD) EN0 ad 12 A s (mE ad cI 0 n (stp ph) 0 (fun _ _ => 0)) H locs := ⟨hK, by rw [had]; exact hP, by rw [had]; exact hD, hS, hA, trivial⟩
      refine rb_callV ⟨hx, hb, hml, hown, hts⟩ wb EN0_ok (m_clean l D cI cC cD ad 0 n (stp ph) 0 (fun _ _ => 0)) (bw5 bw_458 bw_460 bw_21 bw_37 bw_461) (rb_recv wb 0 (by decide) rfl rfl) hdX4_clean rfl ⟨rfl, rfl⟩ ⟨by decide, by decide⟩ hl.1 (Nat.le_of_ble_eq_true rfl) ⟨by decide, by decide⟩ (rest := []) (st1 := []) (by rw [had]; rfl) rfl dX4_init_132 (fun H locs wb => ?_)
      exact W.vret hx hb hr (fun t ht hW => ⟨⟨ad, rfl, (by rw [had]; rfl), by rw [ht]; exact wb.2.1, wb.2.2.1⟩, wb.2.2.2.1.F ht⟩) wb.2.2.2.1.2.2 dX4_init_135
    · refine lv_bipush (v := nI 64) hx hb dX4_init_122 (by decide) ?_
      refine lv_goto (tgt := 128) hx hb dX4_init_124 (by decide) ?_
      refine nb_ren (y := stp ph) (by first | exact phst_1 hph h119 | exact phst_2 hph h119) ?_
      refine va_put (D := D) (ci := 4) (v := .int (stp ph)) (ty := tyX4 2) (C := RX4) (T := TX4) (N := 15) hx hb hts in4 tyX4 tyX4_ok nmX4 hown hK hP hD hS 0 rfl rfl 2 (by decide) (hts _ bw_464) (fun _ h9 => h9) rfl (tyX4_ok 2 (by decide)) rfl rfl (Nat.le_of_ble_eq_true rfl) dX4_init_128 (fun H locs hP hD hS => ?_)
      have hP : va_P D vcl ([(h0, .inr (4, [.int 0, .int (nI n), .int (stp ph), .ref q7, .ref q15, .ref q23, .ref q31, .ref q39, .ref q47, .ref q55, .ref q63, .ref q71, .int 0, .ref q80, .ref q87])), (q7, .inl (cI, 36, .inl (fun _ => 0))), (q15, .inl (cI, 36, .inl (fun _ => 0))), (q23, .inl (cI, 6, .inl (fun _ => 0))), (q31, .inl (cI, 6, .inl (fun _ => 0))), (q39, .inl (cI, 6, .inl (fun _ => 0))), (q47, .inl (cI, 6, .inl (fun _ => 0))), (q55, .inl (cI, 6, .inl (fun _ => 0))), (q63, .inl (cI, 6, .inl (fun _ => 0))), (q71, .inl (cI, 6, .inl (fun _ => 0))), (q80, .inl (cI, 600, .inl (fun _ => 0))), (q87, .inl (cI, 4, .inl (fun _ => 0)))]) H := hP
      have hD : va_D A ([(h0, .inr (4, [.int 0, .int (nI n), .int (stp ph), .ref q7, .ref q15, .ref q23, .ref q31, .ref q39, .ref q47, .ref q55, .ref q63, .ref q71, .int 0, .ref q80, .ref q87])), (q7, .inl (cI, 36, .inl (fun _ => 0))), (q15, .inl (cI, 36, .inl (fun _ => 0))), (q23, .inl (cI, 6, .inl (fun _ => 0))), (q31, .inl (cI, 6, .inl (fun _ => 0))), (q39, .inl (cI, 6, .inl (fun _ => 0))), (q47, .inl (cI, 6, .inl (fun _ => 0))), (q55, .inl (cI, 6, .inl (fun _ => 0))), (q63, .inl (cI, 6, .inl (fun _ => 0))), (q71, .inl (cI, 6, .inl (fun _ => 0))), (q80, .inl (cI, 600, .inl (fun _ => 0))), (q87, .inl (cI, 4, .inl (fun _ => 0)))]) := hD
      refine lv_aload_n hx hb dX4_init_131 rfl (lv_at hl 0 rfl) ?_
      obtain ⟨ad, had⟩ : ∃ f : Nat → Nat, f = fun r => ([h0, q7, q15, q23, q31, q39, q47, q55, q63, q71, q80, q87] : List Nat).getD r 0 := ⟨_, rfl⟩
      have wb : WB D (ty3 cI cC cD) EN0 ad 12 A s (mE ad cI 0 n (stp ph) 0 (fun _ _ => 0)) H locs := ⟨hK, by rw [had]; exact hP, by rw [had]; exact hD, hS, hA, trivial⟩
      refine rb_callV ⟨hx, hb, hml, hown, hts⟩ wb EN0_ok (m_clean l D cI cC cD ad 0 n (stp ph) 0 (fun _ _ => 0)) (bw5 bw_458 bw_460 bw_21 bw_37 bw_461) (rb_recv wb 0 (by decide) rfl rfl) hdX4_clean rfl ⟨rfl, rfl⟩ ⟨by decide, by decide⟩ hl.1 (Nat.le_of_ble_eq_true rfl) ⟨by decide, by decide⟩ (rest := []) (st1 := []) (by rw [had]; rfl) rfl dX4_init_132 (fun H locs wb => ?_)
      exact W.vret hx hb hr (fun t ht hW => ⟨⟨ad, rfl, (by rw [had]; rfl), by rw [ht]; exact wb.2.1, wb.2.2.1⟩, wb.2.2.2.1.F ht⟩) wb.2.2.2.1.2.2 dX4_init_135
