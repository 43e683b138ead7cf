/-! what holds at the start -/
theorem phst_ex (y : Int32) : ∃ ph, phst y ph ∧ ph ≤ 3 := by
  by_cases h : y = 0
  · exact ⟨3, Or.inl ⟨h, rfl⟩, Nat.le_refl _⟩
  · exact ⟨0, Or.inr ⟨h, rfl⟩, by omega⟩
def mA : Nat → Nat → Int32 := va_up (va_up (va_up (va_up ar0 4 (fz (ar0 4) 6 (-1))) 5 (fz (ar0 5) 6 (nI 0))) 6 (fz (ar0 6) 6 (nI 0))) 7 (fz (ar0 7) 6 (-1))
theorem fz_0c {k : Nat} (j : Nat) : fz (ar0 k) 6 (nI 0) j = nI 0 := by
  unfold fz
  split
  · rfl
  · exact nI_0.symm
theorem fz_m1 {k j : Nat} (h : j < 6) : fz (ar0 k) 6 (-1) j = -1 := by
  unfold fz; rw [if_pos h]
theorem mA_ok : okAr mA := ⟨fun _ => rfl, fun _ => rfl, fun _ => nI_0.symm, fun _ h => fz_m1 h, fun j => fz_0c j, fun j => fz_0c j, fun _ h => fz_m1 h, fun _ => nI_0.symm, fun _ => nI_0.symm, fun _ => rfl, fun _ => rfl⟩
theorem nw_in : ∀ w ∈ nwW, w ∈ lw_tbl := by decide +kernel
theorem lw_60 : Cond.arrayOver (.object "LetterAuction$Crew") ∈ lw_tbl := List.mem_of_getElem? (i := 60) (by decide +kernel)
theorem lw_62 : Cond.arrayOver (.object "LetterAuction$Desk") ∈ lw_tbl := List.mem_of_getElem? (i := 62) (by decide +kernel)
theorem lw_203 : Cond.laysStatic "java/lang/Throwable" "UNASSIGNED_STACK" "[Ljava/lang/StackTraceElement;" ∈ lw_tbl := List.mem_of_getElem? (i := 203) (by decide +kernel)
theorem lw_205 : Cond.laysStatic "java/lang/Throwable" "SUPPRESSED_SENTINEL" "Ljava/util/List;" ∈ lw_tbl := List.mem_of_getElem? (i := 205) (by decide +kernel)
theorem lw_288 : Cond.laysStatic "LetterAuction" "STEPS" "[I" ∈ lw_tbl := List.mem_of_getElem? (i := 288) (by decide +kernel)
theorem lw_217 : Cond.stringRef "LetterAuction" 162 "an argument is out of range" ∈ lw_tbl := List.mem_of_getElem? (i := 217) (by decide +kernel)
theorem lw_261 : Cond.stringRef "LetterAuction" 167 "the call does not fit the state" ∈ lw_tbl := List.mem_of_getElem? (i := 261) (by decide +kernel)
theorem lw_341 : Cond.stringRef "LetterAuction" 155 "there is no such letter" ∈ lw_tbl := List.mem_of_getElem? (i := 341) (by decide +kernel)
theorem st_AO {s : State} {args : Array Value} {C : String} (h : (Cond.arrayOver (.object C)).before args s = true) : ∃ cA : ClassId, ArrOfT s cA (.object C) ∧ va_RA s cA (.object C) := by
  obtain ⟨comp, cA, kA, h1, -, h3, h4, h5⟩ := Cond.arrayOver_spec h
  exact ⟨cA, fun n z => ⟨fun k h => (by cases h), kA, h3, comp, h4⟩, kA, comp, h3, h4, h1, h5⟩
theorem st_AI {s : State} {args : Array Value} (h : (Cond.arrayClass .int).before args s = true) : ∃ cA : ClassId, ArrOfT s cA .int ∧ va_RA s cA .int := by
  obtain ⟨cA, kA, comp, h1, h2, h3⟩ := Cond.arrayClass_spec h
  exact ⟨cA, fun n z => ⟨fun k h => (by cases h), kA, h2, comp, h3⟩, h1⟩
theorem st_K {s : State} {args : Array Value} (hts0 : ∀ w ∈ lw_tbl, w.before args s = true) : ∃ (D : va_G) (cI cC cD : ClassId), va_K D vcl (ty3 cI cC cD) s := by
  have hts : ∀ w ∈ bw, w.before args s = true := fun w hw => hts0 w (bw_in hw)
  obtain ⟨c0, i0, k0⟩ := u_known hts in0 (hts _ bw_63)
  obtain ⟨c1, i1, k1⟩ := u_known hts in1 (hts _ bw_94)
  obtain ⟨c2, i2, k2⟩ := u_known hts in2 (hts _ bw_113)
  obtain ⟨c3, i3, k3⟩ := u_known hts in3 (hts _ bw_46)
  obtain ⟨c4, i4, k4⟩ := u_known hts in4 (hts _ bw_453)
  obtain ⟨cI, a0, r0⟩ := st_AI (hts _ bw_93)
  obtain ⟨cC, a1, r1⟩ := st_AO (hts0 _ lw_60)
  obtain ⟨cD, a2, r2⟩ := st_AO (hts0 _ lw_62)
  refine ⟨(fun c => match c with | 0 => c0 | 1 => c1 | 2 => c2 | 3 => c3 | _ => c4, fun c => match c with | 0 => i0 | 1 => i1 | 2 => i2 | 3 => i3 | _ => i4), cI, cC, cD, ?_, ?_⟩
  · intro c q hq
    match c, hq with
    | 0, hq => cases hq; exact k0
    | 1, hq => cases hq; exact k1
    | 2, hq => cases hq; exact k2
    | 3, hq => cases hq; exact k3
    | 4, hq => cases hq; exact k4
    | c + 5, hq => cases hq
  · intro k q hq
    match k, hq with
    | 0, hq => cases hq; exact ⟨a0, r0⟩
    | 1, hq => cases hq; exact ⟨a1, r1⟩
    | 2, hq => cases hq; exact ⟨a2, r2⟩
    | k + 3, hq => cases hq
theorem st_str {s : State} {args : Array Value} {own tx : String} {k : Nat} (h1 : (Cond.stringRef own k tx).before args s = true) (h2 : (Cond.exactly (.string own k) "java/lang/String").before args s = true) : ∃ a : Nat, vk_R own k tx a s := by
  obtain ⟨a, -, -, -, h3, -⟩ := Cond.exactly_spec h2
  exact ⟨a, vk_R.of h1 h3⟩
set_option maxRecDepth 100000 in
theorem st_EN {s : State} {args : Array Value} {A : Nat → Prop} (hts0 : ∀ w ∈ lw_tbl, w.before args s = true) (hgv : (Jvm.Cond.and given_1 narrow_1).before args s = true) (hA : ∀ a : Nat, a < s.heap.size → ¬ A a) : ENC A s s.heap := by
  have hs := flat_of_before _ hgv
  have hts : ∀ w ∈ bw, w.before args s = true := fun w hw => hts0 w (bw_in hw)
  refine ⟨fun w hw => va_Nw.of (nw_tab w hw) (hts0 w (nw_in w hw)), ?_, vx_Zqof (hts0 _ lw_203) (hts _ bw_38) (hs _ (by decide +kernel)) hA, vx_Zqof (hts0 _ lw_205) (hts _ bw_38) (hs _ (by decide +kernel)) hA, st_str (hts0 _ lw_217) (hs _ (by decide +kernel)), st_str (hts0 _ lw_261) (hs _ (by decide +kernel)), st_str (hts0 _ lw_341) (hs _ (by decide +kernel)),
    va_Nc.of (args := args) (hs _ (by decide +kernel)), va_Nc.of (args := args) (hs _ (by decide +kernel)), va_Nc.of (args := args) (hs _ (by decide +kernel))⟩
  have h0 := va_eqt (hs (Cond.eq (.elem (.static "LetterAuction" "STEPS" "[I") (.int 0)) (.int 64)) (by decide +kernel))
  have h1 := va_eqt (hs (Cond.eq (.elem (.static "LetterAuction" "STEPS" "[I") (.int 1)) (.int 16)) (by decide +kernel))
  have h2 := va_eqt (hs (Cond.eq (.elem (.static "LetterAuction" "STEPS" "[I") (.int 2)) (.int 4)) (by decide +kernel))
  have h3 := va_eqt (hs (Cond.eq (.elem (.static "LetterAuction" "STEPS" "[I") (.int 3)) (.int 1)) (by decide +kernel))
  have h4 := va_eqt (hs (Cond.eq (.length (.static "LetterAuction" "STEPS" "[I")) (.int 4)) (by decide +kernel))
  have h5 := hs (Cond.arrayOf (.static "LetterAuction" "STEPS" "[I") .int) (by decide +kernel)
  obtain ⟨t, q1, q2⟩ := va_Tof (tm := .static "LetterAuction" "STEPS" "[I") (ty := .int) (N := 4) (f := fun j => .int (stp j)) (A := A) (by decide) h5 h4 (fun j hj => by
    rcases (show j = 0 ∨ j = 1 ∨ j = 2 ∨ j = 3 by omega) with rfl | rfl | rfl | rfl
    · exact h0
    · exact h1
    · exact h2
    · exact h3) hA
  exact ⟨t, va_Zof (hts0 _ lw_288) (hts _ bw_32) q1 hA, q2⟩
theorem app_D {A : Nat → Prop} {a b : va_W} (ha : va_D A a) (hb : va_D A b) (hap : ∀ (i j : Nat) (p q : Nat × va_E), a[i]? = some p → b[j]? = some q → p.1 ≠ q.1) : va_D A (a ++ b) := by
  refine ⟨fun i j p q hp hq e => ?_, fun k q hq => ?_⟩
  · rcases app_at hp with h1 | ⟨i', e1, h1⟩
    · rcases app_at hq with h2 | ⟨j', e2, h2⟩
      · exact ha.1 i j p q h1 h2 e
      · exact absurd e (hap _ _ p q h1 h2)
    · rcases app_at hq with h2 | ⟨j', e2, h2⟩
      · exact absurd e.symm (hap _ _ q p h2 h1)
      · have := hb.1 i' j' p q h1 h2 e
        omega
  · rcases app_at hq with h | ⟨j, -, h⟩
    · exact ha.2 k q h
    · exact hb.2 j q h
theorem swap_P {D : va_G} {H : Heap} {a b c : va_W} (h : va_P D vcl (a ++ b ++ c) H) : va_P D vcl (a ++ c ++ b) H := app_P (app_P (pre_P (pre_P h)) (suf_P h)) (suf_P (pre_P h))
theorem swap_D {A : Nat → Prop} {a b c : va_W} (h : va_D A (a ++ b ++ c)) : va_D A (a ++ c ++ b) := by
  refine app_D (app_D (pre_D (pre_D h)) (suf_D h) (fun i j p q hp hq => apart_D h (pre_at hp) hq)) (suf_D (pre_D h)) (fun i j p q hp hq => ?_)
  rcases app_at hp with h1 | ⟨i', -, h1⟩
  · exact apart_D (pre_D h) h1 hq
  · exact fun e => apart_D h (suf_at hq) h1 e.symm
set_option maxHeartbeats 4000000 in
set_option maxRecDepth 100000 in
theorem l_cell (l : Launch) (b L k sz : Nat) (xs : Nat → Int32) (hL : L ≤ 2050) (hk : k < 2) (v : Int32) (hv : (if k < L then xs k else 0) = v) (hbz : b < sz) : Met l yL_cell (.code yL_cell cL_cell 2 (some .int) :: bw) { frames := 0, cells := 0, slots := 0, locals := 0 }
    (va_Pc [.ref b, .int (nI k)] (fun U => U.heap.size = sz ∧ va_X b L xs U U.heap)) (fun _ st oc t => oc = .returned (some (.int v)) ∧ va_F (fun q => sz ≤ q) st t) 0 0 (fun q => sz ≤ q) := by
  refine Met.ofW (cc := cL_cell) (maxL := 2) (ret := some .int) (by decide) rfl ?_
  intro p e s m args below meth c s₁ B hml hv0
  obtain ⟨rfl, hsz, hX⟩ := hv0
  subst hsz
  have hx := B.exec
  have hb := B.bytes
  have hl := lv_entry [.ref b, .int (nI k)] (n := 2) (Nat.le_of_ble_eq_true rfl)
  rw [lg_entry_eq]
  generalize (((lg_sl [Value.ref b, Value.int (nI k)] ++ List.replicate (2 - (lg_sl [Value.ref b, Value.int (nI k)]).length) Slot.unset).toArray) : Array Slot) = ls at hl ⊢
  have hl : lv_has ls 2 [(0, .ref b), (1, .int (nI k))] := hl
  have hS : va_S (fun q => s.heap.size ≤ q) s.heap s.heap [] := va_S.rf
  have hbA : ¬ s.heap.size ≤ b := Nat.not_le.mpr hbz
  refine lv_iload_n hx hb dL_cell_0 rfl (lv_at hl 1 rfl) ?_
  refine lv_aload_n hx hb dL_cell_1 rfl (lv_at hl 0 rfl) ?_
  refine va_slen (A := fun q => s.heap.size ≤ q) hx hb hX hbz hbA hS dL_cell_2 ?_
  refine nb_icmp_ge (b := L) (tgt := 12) hx hb dL_cell_3 (by decide) (by omega) (by omega) (fun h => ?_) (fun h => ?_)
  · rw [if_neg (by omega)] at hv
    refine lv_iconst (v := v) hx hb dL_cell_12 (by rw [← hv]; decide) ?_
    exact W.iret hx hb B.returns (fun t ht hW => ⟨rfl, hS.F ht⟩) hS.2.2 dL_cell_13 B.notSynchronized
  · rw [if_pos h] at hv
    refine lv_aload_n hx hb dL_cell_6 rfl (lv_at hl 0 rfl) ?_
    refine lv_iload_n hx hb dL_cell_7 rfl (lv_at hl 1 rfl) ?_
    refine va_sld (A := fun q => s.heap.size ≤ q) hx hb hX hbz hbA hS (vp_in_nI h (by omega)) dL_cell_8 ?_
    rw [nI_clamp (by omega), hv]
    refine lv_goto (tgt := 13) hx hb dL_cell_9 (by decide) ?_
    exact W.iret hx hb B.returns (fun t ht hW => ⟨rfl, hS.F ht⟩) hS.2.2 dL_cell_13 B.notSynchronized
section LS
variable {p : Program} {l : Launch} {e : Env} {s : State} {m : MethodId} {args : Array Value} {below : List Frame} {meth : Method} {c : Code} {H : Heap} {locs : List Loc} {cells slots : Nat} {Q : State → Prop} {pc : Nat} {ls : Array Slot} {rest : List Value} {D : va_G} {A : Nat → Prop} {ws : va_W}
theorem ls_cell (S : CallFix p m c cL_law 7 s args bw "LetterAuctionLaw") {b L : Nat} {xs : Nat → Int32} (hX : va_X b L xs s s.heap) (hbl : b < s.heap.size) (hbA : ¬ A b) (hL : L ≤ 2050) (hA : ∀ q, s.heap.size ≤ q → A q) (hP : va_P D vcl ws H) (hS : va_S A s.heap H locs) (k : Nat) (hk : k < 2) (v : Int32) (hv : (if k < L then xs k else 0) = v)
    (hsize : ls.size = 7) (hroom : (rest.map fun v => v.category).sum ≤ 8) (hcs : cells ≤ 601475 ∧ slots ≤ 7291645) (hdg : decode cL_law pc = .ok (.invokestatic 62, 3))
    (kk : ∀ (H1 : Heap) (locs1 : List Loc), va_P D vcl ws H1 → va_S A s.heap H1 locs1 → W p l e room_1 s m args below meth c H1 locs1 cells slots Q (F0 m (pc + 3) ls (.int v :: rest))) : W p l e room_1 s m args below meth c H locs cells slots Q (F0 m pc ls (.int (nI k) :: .ref b :: rest)) := by
  have hXH : va_X b L xs s H := hX.kept (hS.2.1 b hbl hbA)
  have hr := va_runS (As := [.ref b, .int (nI k)]) (rest := rest) (n := 2) (bytes := cL_cell) (maxL := 2) (ret := some .int) (index := 62) (g := F0 m pc ls (.int (nI k) :: .ref b :: rest)) (locs := locs) (below := below) (p := p) (l := l) (e := e) (R := room_1) (meth := meth) (cells := cells) (slots := slots) S (l_cell l b L k H.size xs hL hk v hv (Nat.lt_of_lt_of_le hbl hS.1))
    (va_cwS 2 S.2.2.2.2 (bw_GI (fun _ h => h) (fun w hw => by
      unfold va_wsS at hw
      rcases List.mem_append.mp hw with h | h
      · exact bw4 bw_157 bw_158 bw_31 bw_159 w (by simp only [List.mem_cons, List.not_mem_nil, or_false] at h ⊢; rcases h with h | h | h <;> simp [h] <;> rfl)
      · rcases List.mem_cons.mp h with h | h
        · rw [h]; exact bw_159
        · exact h)) rfl rfl rfl hdL_cell.2 ⟨by decide, by decide⟩)
    ⟨fun a U g mk q => ⟨q.1, q.2.1, va_X.moved (u := U) (U := U.calling g mk a) (Vm.Alike.refl U.vm) q.2.2⟩, fun U hU hW => ⟨rfl, by rw [hU], by rw [hU]; exact va_X.moved hW.alike hXH⟩⟩ rfl rfl hsize rfl (lv_room hroom) hdg hcs
  intro T hT X
  obtain ⟨v1, st₀, t, T', L1, h0, X', hL1, e1, e2, ⟨hv1, hz, hk1⟩, st⟩ := hr T hT X
  cases hv1
  rw [h0] at hz hk1
  have hk2 : ∀ q : Nat, q < H.size → T'.heap[q]? = H[q]? := fun q h => by rw [e1]; exact hk1 q h (Nat.not_le.mpr h)
  obtain ⟨t2, a1, b1⟩ := kk T'.heap (locs ++ L1) (hP.kept (fun k q hq => hk2 q.1 ((hP k q hq).lt))) ⟨Nat.le_trans hS.1 (by rw [e1]; exact hz), fun q h1 h2 => (hk2 q (Nat.lt_of_lt_of_le h1 hS.1)).trans (hS.2.1 q h1 h2), fun q hq => by
    rcases List.mem_append.mp hq with h | h
    · exact hS.2.2 q h
    · exact hA _ (Nat.le_trans hS.1 (hL1 q h))⟩ T' rfl X'
  exact ⟨t2, st t2 a1, b1⟩
end LS
